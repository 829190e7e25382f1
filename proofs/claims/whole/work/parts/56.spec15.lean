/-! the pairs: upward and downward are the same -/
def pF (P : Nat → Nat → Bool) (a b k : Nat) : List Nat := (List.range' b k).filter (P a)
def pV (a : Nat) (z : Int32) : List Nat → Int32
  | [] => z
  | b :: _ => 10 * nI a + nI b
theorem pV_app (a : Nat) (z : Int32) (b : Nat) : ∀ l : List Nat, pV a z (l ++ [b]) = if l.length = 0 then 10 * nI a + nI b else pV a z l
  | [] => rfl
  | _ :: _ => rfl
theorem nI_zero {n : Nat} (h : n < 2 ^ 31) : (nI n = 0) ↔ n = 0 := by
  constructor
  · intro z
    have h2 : (nI n).toInt = (0 : Int32).toInt := by rw [z]
    rw [nI_toInt h] at h2
    have h3 : (0 : Int32).toInt = 0 := by decide
    rw [h3] at h2
    omega
  · intro z; subst z; rfl
theorem pF_s (P : Nat → Nat → Bool) (a b k : Nat) : pF P a b (k + 1) = pF P a b k ++ (if P a (b + k) = true then [b + k] else []) := by
  unfold pF
  rw [List.range'_concat, List.filter_append, Nat.one_mul]
  congr 1
  by_cases h : P a (b + k) = true
  · rw [if_pos h, List.filter_cons_of_pos h, List.filter_nil]
  · rw [if_neg h, List.filter_cons_of_neg h, List.filter_nil]
theorem pF_len (P : Nat → Nat → Bool) (a b k : Nat) : (pF P a b k).length ≤ k := by
  have := List.length_filter_le (P a) (List.range' b k)
  rw [List.length_range'] at this
  exact this
theorem toI_F {P : Nat → Nat → Bool} {a : Nat} {x : Nat × Int32} : ∀ {k : Nat}, x.1 + k < 2 ^ 31 → toI P a x k = (x.1 + (pF P a (a + 1) k).length, if x.1 = 0 then pV a x.2 (pF P a (a + 1) k) else x.2)
  | 0, _ => by
    show x = (x.1 + 0, if x.1 = 0 then x.2 else x.2)
    rw [ite_self]; rfl
  | k + 1, h => by
    have hl := pF_len P a (a + 1) k
    rw [toI, toI_F (k := k) (by omega), pF_s]
    by_cases h1 : P a (a + 1 + k) = true
    · rw [if_pos h1, if_pos h1, List.length_append]
      show (_, _) = _
      congr 1
      rw [pV_app]
      by_cases h2 : x.1 = 0
      · rw [if_pos h2, if_pos h2]
        by_cases h3 : (pF P a (a + 1) k).length = 0
        · rw [if_pos h3, if_pos ((nI_zero (by omega)).mpr (by omega))]
        · rw [if_neg h3, if_neg (fun z => h3 (by have := (nI_zero (by omega)).mp z; omega))]
      · rw [if_neg h2, if_neg h2, if_neg (fun z => h2 (by have := (nI_zero (by omega)).mp z; omega))]
    · rw [if_neg h1, if_neg h1, List.append_nil]
theorem tmI_F {P : Nat → Nat → Bool} {pn a : Nat} {x : Nat × Int32} : ∀ {e : Nat}, e < pn → tmI P pn a x e = (x.1 + (pF P a (pn - e) e).length, pV a x.2 (pF P a (pn - e) e))
  | 0, _ => rfl
  | e + 1, h => by
    rw [tmI, tmI_F (e := e) (by omega)]
    have e1 : pF P a (pn - (e + 1)) (e + 1) = (if P a (pn - (e + 1)) = true then [pn - (e + 1)] else []) ++ pF P a (pn - e) e := by
      unfold pF
      rw [List.range'_succ, show pn - (e + 1) + 1 = pn - e by omega]
      by_cases h : P a (pn - (e + 1)) = true
      · rw [if_pos h, List.filter_cons_of_pos h]; rfl
      · rw [if_neg h, List.filter_cons_of_neg h]; rfl
    rw [e1, show pn - 1 - e = pn - (e + 1) by omega]
    by_cases h1 : P a (pn - (e + 1)) = true
    · rw [if_pos h1, if_pos h1]
      show (_, _) = (_, _)
      congr 1
    · rw [if_neg h1, if_neg h1]; rfl
def pR (F : Nat → List Nat) : List Nat → Nat × Int32
  | [] => (0, -1000000)
  | a :: r => ((pR F r).1 + (F a).length, pV a (pR F r).2 (F a))
theorem pR_none {F : Nat → List Nat} : ∀ {l : List Nat}, (pR F l).1 = 0 → (pR F l).2 = -1000000
  | [], _ => rfl
  | a :: r, h => by
    have h1 : (pR F r).1 + (F a).length = 0 := h
    have h2 : F a = [] := List.length_eq_zero_iff.mp (by omega)
    show pV a (pR F r).2 (F a) = _
    rw [h2]
    exact pR_none (by omega)
theorem pR_app {F : Nat → List Nat} {b : Nat} : ∀ {l : List Nat}, pR F (l ++ [b]) = ((pR F l).1 + (F b).length, if (pR F l).1 = 0 then pV b (pR F l).2 (F b) else (pR F l).2)
  | [] => by
    show (0 + (F b).length, _) = (0 + (F b).length, _)
    rfl
  | a :: r => by
    have i := pR_app (F := F) (b := b) (l := r)
    show ((pR F (r ++ [b])).1 + (F a).length, pV a (pR F (r ++ [b])).2 (F a)) = ((pR F r).1 + (F a).length + (F b).length, if (pR F r).1 + (F a).length = 0 then pV b (pV a (pR F r).2 (F a)) (F b) else pV a (pR F r).2 (F a))
    rw [i]
    refine Prod.ext (by show (pR F r).1 + (F b).length + (F a).length = _; omega) ?_
    show pV a (if (pR F r).1 = 0 then pV b (pR F r).2 (F b) else (pR F r).2) (F a) = _
    cases h : F a with
    | nil => rfl
    | cons y z =>
      rw [if_neg (show ¬ (pR F r).1 + (y :: z).length = 0 from by rw [List.length_cons]; omega)]
      rfl
theorem pR_le {F : Nat → List Nat} {c : Nat} (hF : ∀ a, (F a).length ≤ c) : ∀ l : List Nat, (pR F l).1 ≤ l.length * c
  | [] => Nat.zero_le _
  | a :: r => by
    have := pR_le hF r
    have h2 := hF a
    show (pR F r).1 + (F a).length ≤ (r.length + 1) * c
    rw [Nat.succ_mul]
    omega
theorem toO_R {P : Nat → Nat → Bool} {pn : Nat} (hp : pn ≤ 6) : ∀ {n : Nat}, n ≤ pn → toO P pn n = pR (fun a => pF P a (a + 1) (pn - 1 - a)) (List.range' 0 n)
  | 0, _ => rfl
  | n + 1, h => by
    have hb := pR_le (F := fun a => pF P a (a + 1) (pn - 1 - a)) (c := 5) (fun a => by have := pF_len P a (a + 1) (pn - 1 - a); omega) (List.range' 0 n)
    rw [List.length_range'] at hb
    rw [toO_s, toO_R hp (by omega), toI_F (by omega), List.range'_concat, Nat.one_mul, Nat.zero_add, pR_app]
theorem tmO_R {P : Nat → Nat → Bool} {pn : Nat} : ∀ {d : Nat}, d ≤ pn → tmO P pn d = pR (fun a => pF P a (a + 1) (pn - 1 - a)) (List.range' (pn - d) d)
  | 0, _ => rfl
  | d + 1, h => by
    rw [tmO_s, tmO_R (by omega), tmI_F (by omega), List.range'_succ, show pn - (d + 1) + 1 = pn - d by omega]
    show _ = ((pR _ _).1 + (pF P (pn - (d + 1)) (pn - (d + 1) + 1) (pn - 1 - (pn - (d + 1)))).length, pV (pn - (d + 1)) (pR _ _).2 (pF P (pn - (d + 1)) (pn - (d + 1) + 1) (pn - 1 - (pn - (d + 1)))))
    rw [show pn - (d + 1) + 1 = pn - d by omega, show pn - 1 - (pn - (d + 1)) = d by omega]
theorem tm_to {P : Nat → Nat → Bool} {pn : Nat} (hp : pn ≤ 6) : tmO P pn pn = toO P pn pn := by
  rw [toO_R hp (Nat.le_refl _), tmO_R (Nat.le_refl _), Nat.sub_self]
