/-! a constructor's call -/
theorem joinL {A0 : Nat → Prop} {D : va_G} {X w1 : va_W} {q : Nat} {e : va_E} {H H1 : Heap} (hP : va_P D xjCl (X ++ [(q, e)]) H) (hD : va_D A0 (X ++ [(q, e)])) (hk : ∀ a : Nat, a < H.size → ¬ va_A [(q, e)] H.size a → H1[a]? = H[a]?) (hF : ∀ a, va_A [(q, e)] H.size a → A0 a) (hP1 : va_P D xjCl w1 H1) (hD1 : va_D (va_A [(q, e)] H.size) w1) : va_P D xjCl (X ++ w1) H1 ∧ va_D A0 (X ++ w1) := by
  have hXP : va_P D xjCl X H := fun k x hx => hP k x (by rw [List.getElem?_append_left (List.getElem?_eq_some_iff.mp hx).1]; exact hx)
  have hXn : ∀ (k : Nat) (x : Nat × va_E), X[k]? = some x → x.1 < H.size ∧ ¬ va_A [(q, e)] H.size x.1 := by
    intro k x hx
    have hlt := (hXP k x hx).lt
    refine ⟨hlt, fun z => ?_⟩
    rcases z with ⟨j, e2, hj⟩ | z
    · have hj0 : j < 1 := (List.getElem?_eq_some_iff.mp hj).1
      have e0 : j = 0 := by omega
      subst e0
      simp at hj
      have hkl := (List.getElem?_eq_some_iff.mp hx).1
      have := hD.1 k X.length x (q, e) (by rw [List.getElem?_append_left hkl]; exact hx) (by simp) (by rw [← hj.1])
      omega
    · omega
  have hXP1 : va_P D xjCl X H1 := hXP.kept (fun k x hx => hk x.1 (hXn k x hx).1 (hXn k x hx).2)
  refine ⟨hXP1.app hP1, ?_, ?_⟩
  · intro i j a b hi hj hab
    by_cases ci : i < X.length <;> by_cases cj : j < X.length
    · exact hD.1 i j a b (by rw [List.getElem?_append_left ci] at hi ⊢; exact hi) (by rw [List.getElem?_append_left cj] at hj ⊢; exact hj) hab
    · rw [List.getElem?_append_left ci] at hi
      rw [List.getElem?_append_right (by omega)] at hj
      exact absurd (hD1.2 _ b hj) (by rw [← hab]; exact (hXn i a hi).2)
    · rw [List.getElem?_append_left cj] at hj
      rw [List.getElem?_append_right (by omega)] at hi
      exact absurd (hD1.2 _ a hi) (by rw [hab]; exact (hXn j b hj).2)
    · rw [List.getElem?_append_right (by omega)] at hi hj
      have := hD1.1 _ _ a b hi hj hab
      omega
  · intro k x hx
    by_cases ck : k < X.length
    · exact hD.2 k x (by rw [List.getElem?_append_left ck] at hx ⊢; exact hx)
    · rw [List.getElem?_append_right (by omega)] at hx
      exact hF _ (hD1.2 _ x hx)
