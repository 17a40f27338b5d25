theorem xj_getRn {sc : Option (Nat × (Int → Int))} {d : Nat} {k : MI} {h : Hp} {pc pc2 : Nat} {lo : Lo} {st : List Value} {Q : Int → Hp → Prop} {cs : String} {idx ci kf c c2 : Nat} (F : FOK cs idx ci kf) (hd : decode k.2.1 pc = .ok (.getfield idx, 3)) (hp : pc + 3 = pc2) (he : k.1.cls = cs) (hk : kd c = (0, ci)) (ht : ftag ci kf = 0) (hc : ch c kf = c2) (kk : XJ sc d k h pc2 lo (.ref c2 :: st) Q) : XJ sc d k h pc lo (.ref c :: st) Q := by
  subst hc
  exact xj_getR F hd hp he hk ht kk
theorem tsw_X4_isOfGloves_9 {sc : Option (Nat × (Int → Int))} {d : Nat} {h : Hp} {lo : Lo} {st : List Value} {Q : Int → Hp → Prop} {a : Int} (ha : -2147483648 ≤ a ∧ a ≤ 2147483647) (k0 : a = 0 → XJ sc d kX4_isOfGloves h 36 lo st Q) (k1 : a = 1 → XJ sc d kX4_isOfGloves h 50 lo st Q) (kout : (¬ a = 0 ∧ ¬ a = 1) → XJ sc d kX4_isOfGloves h 55 lo st Q) : XJ sc d kX4_isOfGloves h 9 lo (vi a :: st) Q := by
  rcases (show a = 0 ∨ a = 1 ∨ (¬ a = 0 ∧ ¬ a = 1) by omega) with e | e | e
  · exact xj_look (tgt := 36) dX4_isOfGloves_9 ha (by decide) (by subst e; rfl) rfl (k0 e)
  · exact xj_look (tgt := 50) dX4_isOfGloves_9 ha (by decide) (by subst e; rfl) rfl (k1 e)
  · refine xj_look (tgt := 55) dX4_isOfGloves_9 ha (by decide) (off := 46) ?_ rfl (kout e)
    obtain ⟨e0, e1⟩ := e
    simp only [Op.lookupswitch.offset_cons]
    rw [if_neg (fun q => e0 q.symm), if_neg (fun q => e1 q.symm)]
    rfl
theorem tsw_X6_glove_15 {sc : Option (Nat × (Int → Int))} {d : Nat} {h : Hp} {lo : Lo} {st : List Value} {Q : Int → Hp → Prop} {a : Int} (ha : -2147483648 ≤ a ∧ a ≤ 2147483647) (k0 : a = 0 → XJ sc d kX6_glove h 64 lo st Q) (k1 : a = 1 → XJ sc d kX6_glove h 76 lo st Q) (k2 : a = 2 → XJ sc d kX6_glove h 88 lo st Q) (k3 : a = 3 → XJ sc d kX6_glove h 100 lo st Q) (k4 : a = 4 → XJ sc d kX6_glove h 110 lo st Q) (k5 : a = 5 → XJ sc d kX6_glove h 122 lo st Q) (k6 : a = 6 → XJ sc d kX6_glove h 134 lo st Q) (k7 : a = 7 → XJ sc d kX6_glove h 143 lo st Q) (k8 : a = 8 → XJ sc d kX6_glove h 152 lo st Q) (kout : (a < 0 ∨ 8 < a) → XJ sc d kX6_glove h 161 lo st Q) : XJ sc d kX6_glove h 15 lo (vi a :: st) Q := by
  rcases (show a = 0 ∨ a = 1 ∨ a = 2 ∨ a = 3 ∨ a = 4 ∨ a = 5 ∨ a = 6 ∨ a = 7 ∨ a = 8 ∨ (a < 0 ∨ 8 < a) by omega) with e | e | e | e | e | e | e | e | e | e
  · exact xj_tabIn (tgt := 64) dX6_glove_15 ha (by omega) (by subst e; rfl) rfl (k0 e)
  · exact xj_tabIn (tgt := 76) dX6_glove_15 ha (by omega) (by subst e; rfl) rfl (k1 e)
  · exact xj_tabIn (tgt := 88) dX6_glove_15 ha (by omega) (by subst e; rfl) rfl (k2 e)
  · exact xj_tabIn (tgt := 100) dX6_glove_15 ha (by omega) (by subst e; rfl) rfl (k3 e)
  · exact xj_tabIn (tgt := 110) dX6_glove_15 ha (by omega) (by subst e; rfl) rfl (k4 e)
  · exact xj_tabIn (tgt := 122) dX6_glove_15 ha (by omega) (by subst e; rfl) rfl (k5 e)
  · exact xj_tabIn (tgt := 134) dX6_glove_15 ha (by omega) (by subst e; rfl) rfl (k6 e)
  · exact xj_tabIn (tgt := 143) dX6_glove_15 ha (by omega) (by subst e; rfl) rfl (k7 e)
  · exact xj_tabIn (tgt := 152) dX6_glove_15 ha (by omega) (by subst e; rfl) rfl (k8 e)
  · exact xj_tabOut (tgt := 161) dX6_glove_15 ha e rfl (kout e)
theorem tsw_X6_wearer_15 {sc : Option (Nat × (Int → Int))} {d : Nat} {h : Hp} {lo : Lo} {st : List Value} {Q : Int → Hp → Prop} {a : Int} (ha : -2147483648 ≤ a ∧ a ≤ 2147483647) (k0 : a = 0 → XJ sc d kX6_wearer h 64 lo st Q) (k1 : a = 1 → XJ sc d kX6_wearer h 76 lo st Q) (k2 : a = 2 → XJ sc d kX6_wearer h 86 lo st Q) (k3 : a = 3 → XJ sc d kX6_wearer h 96 lo st Q) (k4 : a = 4 → XJ sc d kX6_wearer h 106 lo st Q) (k5 : a = 5 → XJ sc d kX6_wearer h 119 lo st Q) (k6 : a = 6 → XJ sc d kX6_wearer h 131 lo st Q) (k7 : a = 7 → XJ sc d kX6_wearer h 157 lo st Q) (k8 : a = 8 → XJ sc d kX6_wearer h 174 lo st Q) (kout : (a < 0 ∨ 8 < a) → XJ sc d kX6_wearer h 183 lo st Q) : XJ sc d kX6_wearer h 15 lo (vi a :: st) Q := by
  rcases (show a = 0 ∨ a = 1 ∨ a = 2 ∨ a = 3 ∨ a = 4 ∨ a = 5 ∨ a = 6 ∨ a = 7 ∨ a = 8 ∨ (a < 0 ∨ 8 < a) by omega) with e | e | e | e | e | e | e | e | e | e
  · exact xj_tabIn (tgt := 64) dX6_wearer_15 ha (by omega) (by subst e; rfl) rfl (k0 e)
  · exact xj_tabIn (tgt := 76) dX6_wearer_15 ha (by omega) (by subst e; rfl) rfl (k1 e)
  · exact xj_tabIn (tgt := 86) dX6_wearer_15 ha (by omega) (by subst e; rfl) rfl (k2 e)
  · exact xj_tabIn (tgt := 96) dX6_wearer_15 ha (by omega) (by subst e; rfl) rfl (k3 e)
  · exact xj_tabIn (tgt := 106) dX6_wearer_15 ha (by omega) (by subst e; rfl) rfl (k4 e)
  · exact xj_tabIn (tgt := 119) dX6_wearer_15 ha (by omega) (by subst e; rfl) rfl (k5 e)
  · exact xj_tabIn (tgt := 131) dX6_wearer_15 ha (by omega) (by subst e; rfl) rfl (k6 e)
  · exact xj_tabIn (tgt := 157) dX6_wearer_15 ha (by omega) (by subst e; rfl) rfl (k7 e)
  · exact xj_tabIn (tgt := 174) dX6_wearer_15 ha (by omega) (by subst e; rfl) rfl (k8 e)
  · exact xj_tabOut (tgt := 183) dX6_wearer_15 ha e rfl (kout e)
theorem tsw_X6_teas_105 {sc : Option (Nat × (Int → Int))} {d : Nat} {h : Hp} {lo : Lo} {st : List Value} {Q : Int → Hp → Prop} {a : Int} (ha : -2147483648 ≤ a ∧ a ≤ 2147483647) (k0 : a = 0 → XJ sc d kX6_teas h 132 lo st Q) (k1 : a = 1 → XJ sc d kX6_teas h 135 lo st Q) (kout : (¬ a = 0 ∧ ¬ a = 1) → XJ sc d kX6_teas h 143 lo st Q) : XJ sc d kX6_teas h 105 lo (vi a :: st) Q := by
  rcases (show a = 0 ∨ a = 1 ∨ (¬ a = 0 ∧ ¬ a = 1) by omega) with e | e | e
  · exact xj_look (tgt := 132) dX6_teas_105 ha (by decide) (by subst e; rfl) rfl (k0 e)
  · exact xj_look (tgt := 135) dX6_teas_105 ha (by decide) (by subst e; rfl) rfl (k1 e)
  · refine xj_look (tgt := 143) dX6_teas_105 ha (by decide) (off := 38) ?_ rfl (kout e)
    obtain ⟨e0, e1⟩ := e
    simp only [Op.lookupswitch.offset_cons]
    rw [if_neg (fun q => e0 q.symm), if_neg (fun q => e1 q.symm)]
    rfl
theorem tsw_X6_count_1 {sc : Option (Nat × (Int → Int))} {d : Nat} {h : Hp} {lo : Lo} {st : List Value} {Q : Int → Hp → Prop} {a : Int} (ha : -2147483648 ≤ a ∧ a ≤ 2147483647) (k0 : a = 0 → XJ sc d kX6_count h 68 lo st Q) (k1 : a = 1 → XJ sc d kX6_count h 76 lo st Q) (k2 : a = 2 → XJ sc d kX6_count h 84 lo st Q) (k3 : a = 3 → XJ sc d kX6_count h 92 lo st Q) (k4 : a = 4 → XJ sc d kX6_count h 100 lo st Q) (k5 : a = 5 → XJ sc d kX6_count h 109 lo st Q) (k6 : a = 6 → XJ sc d kX6_count h 118 lo st Q) (k7 : a = 7 → XJ sc d kX6_count h 126 lo st Q) (k8 : a = 8 → XJ sc d kX6_count h 134 lo st Q) (k9 : a = 9 → XJ sc d kX6_count h 142 lo st Q) (k10 : a = 10 → XJ sc d kX6_count h 150 lo st Q) (k11 : a = 11 → XJ sc d kX6_count h 158 lo st Q) (k12 : a = 12 → XJ sc d kX6_count h 163 lo st Q) (kout : (a < 0 ∨ 12 < a) → XJ sc d kX6_count h 168 lo st Q) : XJ sc d kX6_count h 1 lo (vi a :: st) Q := by
  rcases (show a = 0 ∨ a = 1 ∨ a = 2 ∨ a = 3 ∨ a = 4 ∨ a = 5 ∨ a = 6 ∨ a = 7 ∨ a = 8 ∨ a = 9 ∨ a = 10 ∨ a = 11 ∨ a = 12 ∨ (a < 0 ∨ 12 < a) by omega) with e | e | e | e | e | e | e | e | e | e | e | e | e | e
  · exact xj_tabIn (tgt := 68) dX6_count_1 ha (by omega) (by subst e; rfl) rfl (k0 e)
  · exact xj_tabIn (tgt := 76) dX6_count_1 ha (by omega) (by subst e; rfl) rfl (k1 e)
  · exact xj_tabIn (tgt := 84) dX6_count_1 ha (by omega) (by subst e; rfl) rfl (k2 e)
  · exact xj_tabIn (tgt := 92) dX6_count_1 ha (by omega) (by subst e; rfl) rfl (k3 e)
  · exact xj_tabIn (tgt := 100) dX6_count_1 ha (by omega) (by subst e; rfl) rfl (k4 e)
  · exact xj_tabIn (tgt := 109) dX6_count_1 ha (by omega) (by subst e; rfl) rfl (k5 e)
  · exact xj_tabIn (tgt := 118) dX6_count_1 ha (by omega) (by subst e; rfl) rfl (k6 e)
  · exact xj_tabIn (tgt := 126) dX6_count_1 ha (by omega) (by subst e; rfl) rfl (k7 e)
  · exact xj_tabIn (tgt := 134) dX6_count_1 ha (by omega) (by subst e; rfl) rfl (k8 e)
  · exact xj_tabIn (tgt := 142) dX6_count_1 ha (by omega) (by subst e; rfl) rfl (k9 e)
  · exact xj_tabIn (tgt := 150) dX6_count_1 ha (by omega) (by subst e; rfl) rfl (k10 e)
  · exact xj_tabIn (tgt := 158) dX6_count_1 ha (by omega) (by subst e; rfl) rfl (k11 e)
  · exact xj_tabIn (tgt := 163) dX6_count_1 ha (by omega) (by subst e; rfl) rfl (k12 e)
  · exact xj_tabOut (tgt := 168) dX6_count_1 ha e rfl (kout e)
theorem tsw_X6_kindOf_1 {sc : Option (Nat × (Int → Int))} {d : Nat} {h : Hp} {lo : Lo} {st : List Value} {Q : Int → Hp → Prop} {a : Int} (ha : -2147483648 ≤ a ∧ a ≤ 2147483647) (k0 : a = 100 → XJ sc d kX6_kindOf h 68 lo st Q) (k1 : a = 101 → XJ sc d kX6_kindOf h 74 lo st Q) (k2 : a = 102 → XJ sc d kX6_kindOf h 74 lo st Q) (k3 : a = 103 → XJ sc d kX6_kindOf h 64 lo st Q) (k4 : a = 104 → XJ sc d kX6_kindOf h 74 lo st Q) (k5 : a = 105 → XJ sc d kX6_kindOf h 74 lo st Q) (k6 : a = 106 → XJ sc d kX6_kindOf h 74 lo st Q) (k7 : a = 107 → XJ sc d kX6_kindOf h 66 lo st Q) (k8 : a = 108 → XJ sc d kX6_kindOf h 72 lo st Q) (k9 : a = 109 → XJ sc d kX6_kindOf h 74 lo st Q) (k10 : a = 110 → XJ sc d kX6_kindOf h 74 lo st Q) (k11 : a = 111 → XJ sc d kX6_kindOf h 70 lo st Q) (kout : (a < 100 ∨ 111 < a) → XJ sc d kX6_kindOf h 74 lo st Q) : XJ sc d kX6_kindOf h 1 lo (vi a :: st) Q := by
  rcases (show a = 100 ∨ a = 101 ∨ a = 102 ∨ a = 103 ∨ a = 104 ∨ a = 105 ∨ a = 106 ∨ a = 107 ∨ a = 108 ∨ a = 109 ∨ a = 110 ∨ a = 111 ∨ (a < 100 ∨ 111 < a) by omega) with e | e | e | e | e | e | e | e | e | e | e | e | e
  · exact xj_tabIn (tgt := 68) dX6_kindOf_1 ha (by omega) (by subst e; rfl) rfl (k0 e)
  · exact xj_tabIn (tgt := 74) dX6_kindOf_1 ha (by omega) (by subst e; rfl) rfl (k1 e)
  · exact xj_tabIn (tgt := 74) dX6_kindOf_1 ha (by omega) (by subst e; rfl) rfl (k2 e)
  · exact xj_tabIn (tgt := 64) dX6_kindOf_1 ha (by omega) (by subst e; rfl) rfl (k3 e)
  · exact xj_tabIn (tgt := 74) dX6_kindOf_1 ha (by omega) (by subst e; rfl) rfl (k4 e)
  · exact xj_tabIn (tgt := 74) dX6_kindOf_1 ha (by omega) (by subst e; rfl) rfl (k5 e)
  · exact xj_tabIn (tgt := 74) dX6_kindOf_1 ha (by omega) (by subst e; rfl) rfl (k6 e)
  · exact xj_tabIn (tgt := 66) dX6_kindOf_1 ha (by omega) (by subst e; rfl) rfl (k7 e)
  · exact xj_tabIn (tgt := 72) dX6_kindOf_1 ha (by omega) (by subst e; rfl) rfl (k8 e)
  · exact xj_tabIn (tgt := 74) dX6_kindOf_1 ha (by omega) (by subst e; rfl) rfl (k9 e)
  · exact xj_tabIn (tgt := 74) dX6_kindOf_1 ha (by omega) (by subst e; rfl) rfl (k10 e)
  · exact xj_tabIn (tgt := 70) dX6_kindOf_1 ha (by omega) (by subst e; rfl) rfl (k11 e)
  · exact xj_tabOut (tgt := 74) dX6_kindOf_1 ha e rfl (kout e)
theorem tsw_X6_temperOf_1 {sc : Option (Nat × (Int → Int))} {d : Nat} {h : Hp} {lo : Lo} {st : List Value} {Q : Int → Hp → Prop} {a : Int} (ha : -2147483648 ≤ a ∧ a ≤ 2147483647) (k0 : a = 1 → XJ sc d kX6_temperOf h 32 lo st Q) (k1 : a = 2 → XJ sc d kX6_temperOf h 70 lo st Q) (k2 : a = 3 → XJ sc d kX6_temperOf h 82 lo st Q) (k3 : a = 4 → XJ sc d kX6_temperOf h 49 lo st Q) (kout : (a < 1 ∨ 4 < a) → XJ sc d kX6_temperOf h 95 lo st Q) : XJ sc d kX6_temperOf h 1 lo (vi a :: st) Q := by
  rcases (show a = 1 ∨ a = 2 ∨ a = 3 ∨ a = 4 ∨ (a < 1 ∨ 4 < a) by omega) with e | e | e | e | e
  · exact xj_tabIn (tgt := 32) dX6_temperOf_1 ha (by omega) (by subst e; rfl) rfl (k0 e)
  · exact xj_tabIn (tgt := 70) dX6_temperOf_1 ha (by omega) (by subst e; rfl) rfl (k1 e)
  · exact xj_tabIn (tgt := 82) dX6_temperOf_1 ha (by omega) (by subst e; rfl) rfl (k2 e)
  · exact xj_tabIn (tgt := 49) dX6_temperOf_1 ha (by omega) (by subst e; rfl) rfl (k3 e)
  · exact xj_tabOut (tgt := 95) dX6_temperOf_1 ha e rfl (kout e)
