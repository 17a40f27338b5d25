/-! the start: every number nought -/
def h00 : Hp := fun _ _ => 0
def S00 : Sh := fun _ _ => 0
theorem no_lt {a : Int} {P : Prop} (h0 : 0 ≤ a) (h1 : a < 0) : P := by exfalso; omega
theorem WF_00 : WF S00 := by
  refine ⟨Or.inl ⟨rfl, rfl⟩, Int.le_refl _, ⟨Int.le_refl _, by show (0 : Int) ≤ 8; decide⟩, fun g a b => no_lt a b, fun g a b => no_lt a b, fun g a b => no_lt a b, fun g g' a b _ _ _ _ => no_lt a b⟩
theorem RC_00 (b : Nat) : RC b S00 h00 := ⟨⟨rfl, rfl, rfl, rfl⟩, fun g a b => no_lt a b, fun g a b => no_lt a b, fun g a b => no_lt a b⟩
theorem KC_00 : KC S00 S00 0 (fun _ => 0) 0 0 0 h00 := ⟨RC_00 2, fun q => absurd q (by decide), ⟨rfl, ⟨Int.le_refl _, by decide⟩, fun i a b => no_lt a b⟩, rfl, rfl, rfl⟩
theorem KW_00 : KW S00 S00 0 0 0 := ⟨WF_00, by show (0 : Int) ≤ 999; decide, Or.inl rfl, fun q => absurd q (by decide), by decide, by decide⟩
theorem sub_of_map {ws ws' : va_W} {is : List Nat} (h : is.map (fun i => ws[i]?) = ws'.map some) : is.filterMap (fun i => ws[i]?) = ws' := by
  have e : is.filterMap (fun i => ws[i]?) = (is.map (fun i => ws[i]?)).filterMap id := by rw [List.filterMap_map]; rfl
  rw [e, h, List.filterMap_map]
  simp
