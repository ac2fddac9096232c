/-- n cells in a row, by their places -/
def tl (n : Nat) (a : Nat → Nat) (e : Nat → va_E) : va_W := (List.range n).map fun i => (a i, e i)
theorem tl_len (n : Nat) (a : Nat → Nat) (e : Nat → va_E) : (tl n a e).length = n := by simp [tl]
theorem tl_get {n k : Nat} {a : Nat → Nat} {e : Nat → va_E} (hk : k < n) : (tl n a e)[k]? = some (a k, e k) := by simp [tl, hk]
theorem tl_set {n k : Nat} {a : Nat → Nat} {e e' : Nat → va_E} {x : va_E} (hk : k < n) (he : va_up e k x = e') : (tl n a e).set k (a k, x) = tl n a e' := by
  subst he
  apply List.ext_getElem?
  intro i
  by_cases h : k = i
  · subst h
    rw [List.getElem?_set_self (by rw [tl_len]; exact hk), tl_get hk, va_up_self]
  · rw [List.getElem?_set_ne h]
    by_cases hi : i < n
    · rw [tl_get hi, tl_get hi, va_up_ne _ _ (Ne.symm h)]
    · rw [List.getElem?_eq_none (by rw [tl_len]; omega), List.getElem?_eq_none (by rw [tl_len]; omega)]
theorem ap_get {X Y : va_W} {m k : Nat} (hm : X.length = m) : (X ++ Y)[m + k]? = Y[k]? := by
  subst hm
  rw [List.getElem?_append_right (by omega)]
  congr 1
  omega
theorem ap_getL {X Y : va_W} {k : Nat} {q : Nat × va_E} (h : X[k]? = some q) : (X ++ Y)[k]? = some q := by
  rw [List.getElem?_append_left (List.getElem?_eq_some_iff.mp h).1]; exact h
theorem ap_set {X Y : va_W} {m k : Nat} {q : Nat × va_E} (hm : X.length = m) : (X ++ Y).set (m + k) q = X ++ Y.set k q := by
  subst hm
  rw [List.set_append_right _ _ (by omega)]
  congr 2
  omega
theorem ap_setL {X Y : va_W} {k : Nat} {q : Nat × va_E} (h : k < X.length) : (X ++ Y).set k q = X.set k q ++ Y := List.set_append_left _ _ h
section TG
variable {X Y A B C : va_W} {n k m : Nat} {a : Nat → Nat} {e e' : Nat → va_E} {x : va_E}
theorem tg1 (hm : X.length = m) (hk : k < n) : (X ++ (tl n a e ++ Y))[m + k]? = some (a k, e k) := by rw [ap_get hm]; exact ap_getL (tl_get hk)
theorem tg2 (hm : X.length + A.length = m) (hk : k < n) : (X ++ (A ++ (tl n a e ++ Y)))[m + k]? = some (a k, e k) := by rw [← List.append_assoc]; exact tg1 (by rw [List.length_append]; exact hm) hk
theorem tg3 (hm : X.length + A.length + B.length = m) (hk : k < n) : (X ++ (A ++ (B ++ (tl n a e ++ Y))))[m + k]? = some (a k, e k) := by rw [← List.append_assoc]; exact tg2 (by rw [List.length_append]; exact hm) hk
theorem tg4 (hm : X.length + A.length + B.length + C.length = m) (hk : k < n) : (X ++ (A ++ (B ++ (C ++ (tl n a e ++ Y)))))[m + k]? = some (a k, e k) := by rw [← List.append_assoc]; exact tg3 (by rw [List.length_append]; exact hm) hk
theorem ts1 (hm : X.length = m) (hk : k < n) (he : va_up e k x = e') : (X ++ (tl n a e ++ Y)).set (m + k) (a k, x) = X ++ (tl n a e' ++ Y) := by rw [ap_set hm, ap_setL (by rw [tl_len]; exact hk), tl_set hk he]
theorem ts2 (hm : X.length + A.length = m) (hk : k < n) (he : va_up e k x = e') : (X ++ (A ++ (tl n a e ++ Y))).set (m + k) (a k, x) = X ++ (A ++ (tl n a e' ++ Y)) := by rw [← List.append_assoc, ts1 (by rw [List.length_append]; exact hm) hk he, List.append_assoc]
theorem ts3 (hm : X.length + A.length + B.length = m) (hk : k < n) (he : va_up e k x = e') : (X ++ (A ++ (B ++ (tl n a e ++ Y)))).set (m + k) (a k, x) = X ++ (A ++ (B ++ (tl n a e' ++ Y))) := by rw [← List.append_assoc, ts2 (by rw [List.length_append]; exact hm) hk he, List.append_assoc]
theorem ts4 (hm : X.length + A.length + B.length + C.length = m) (hk : k < n) (he : va_up e k x = e') : (X ++ (A ++ (B ++ (C ++ (tl n a e ++ Y))))).set (m + k) (a k, x) = X ++ (A ++ (B ++ (C ++ (tl n a e' ++ Y)))) := by rw [← List.append_assoc, ts3 (by rw [List.length_append]; exact hm) hk he, List.append_assoc]
end TG
theorem wd_eq {g : GG} {s : State} {A : Nat → Prop} {H : Heap} {locs : List Loc} {ws ws' : va_W} (h : ws = ws') (hw : Wd g s A H locs ws) : Wd g s A H locs ws' := h ▸ hw
theorem l_c {α : Type} {a b : α} {l l' : List α} (h : a = b) (hl : l = l') : a :: l = b :: l' := by rw [h, hl]
abbrev rfA (a : Nat → Nat) : Nat → Option Nat := fun i => some (a i)
def kE (kb : Nat → Nat) (num : Nat → Int32) (rep : Nat → Int64) : Nat → va_E := fun i => .inr (0, [.ref (kb i), .int (num i), .long (rep i)])
def bE (g : GG) (kf : Nat → Nat → Int32) : Nat → va_E := fun i => iA g 16 (kf i)
def uE (to fi se : Nat → Int32) : Nat → va_E := fun i => .inr (5, [.int (to i), .int (fi i), .int (se i)])
def sE (op ow : Nat → Int32) (id be la : Nat → Int64) : Nat → va_E := fun i => .inr (3, [.int (op i), .int (ow i), .long (id i), .long (be i), .long (la i)])
