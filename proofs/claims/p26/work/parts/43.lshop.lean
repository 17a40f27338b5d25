/-! the law writes a shop -/
theorem WF_mark {S : Sh} {g v : Int} (hW : WF S) (hv : 0 ≤ v ∧ v ≤ 9) : WF (hset S 1 g v) := by
  refine ⟨hW.1, hW.2.1, hW.2.2.1, fun k h0 h1 => ?_, hW.2.2.2.2.1, hW.2.2.2.2.2.1, hW.2.2.2.2.2.2⟩
  have := wf_g hW ⟨h0, h1⟩
  refine ⟨this.1, ?_, this.2.2⟩
  by_cases e : k = g
  · subst e; rw [hset_eq]; exact hv
  · rw [hset_nk e]; exact this.2.1
theorem WF_wish {S : Sh} {w n x : Int} (hW : WF S) (hn : 0 ≤ n ∧ n ≤ 9) (hx : 0 ≤ x ∧ x ≤ 2) : WF (hset (hset S 4 w n) 5 w x) := by
  refine ⟨hW.1, hW.2.1, hW.2.2.1, hW.2.2.2.1, fun k h0 h1 => ?_, hW.2.2.2.2.2.1, hW.2.2.2.2.2.2⟩
  have := wf_w hW ⟨h0, h1⟩
  by_cases e : k = w
  · subst e
    exact ⟨by rw [hset_nc (by decide), hset_eq]; exact hn, by rw [hset_eq]; exact hx⟩
  · exact ⟨by rw [hset_nc (by decide), hset_nk e]; exact this.1, by rw [hset_nk e, hset_nc (by decide)]; exact this.2⟩
theorem WF_new {len : Int} {pg : Int → Int} (h0 : 0 ≤ len) (h : shopP len pg) : WF (newS pg (nwG len pg) (nwW len pg)) := by
  obtain ⟨s1, s2, s3, s4, s5⟩ := shopP_fact h0 h
  have e60 : newS pg (nwG len pg) (nwW len pg) 6 0 = nwG len pg := rfl
  have e61 : newS pg (nwG len pg) (nwW len pg) 6 1 = nwW len pg := rfl
  refine ⟨Or.inr ⟨s1.1, s1.2, s2.1, s2.2⟩, by show (0 : Int) ≤ 0; decide, ⟨by show (0 : Int) ≤ 0; decide, by show (0 : Int) ≤ 8; decide⟩, fun g q0 q1 => ?_, fun w q0 q1 => ?_, fun i q0 q1 => ?_, fun g g' q0 q1 q2 q3 q4 q5 => absurd rfl q5⟩
  · rw [e60] at q1
    have a1 := (s5 (3 * g).toNat (by omega)).2 (by omega)
    have a2 := (s5 (3 * g + 1).toNat (by omega)).2 (by omega)
    rw [show (((3 * g).toNat : Nat) : Int) = 3 * g by omega] at a1
    rw [show (((3 * g + 1).toNat : Nat) : Int) = 3 * g + 1 by omega] at a2
    have hk := kindz_rg (pg (3 * g))
    have b1 : ¬ kindz (pg (3 * g)) = -1 := by unfold ofGP at a1; omega
    have b2 : 48 ≤ pg (3 * g + 1) ∧ pg (3 * g + 1) ≤ 57 := by unfold ofGP at a2; omega
    refine ⟨?_, ?_, ?_, ?_⟩
    · show 0 ≤ kindz (pg (3 * g)) ∧ kindz (pg (3 * g)) ≤ 4
      omega
    · show 0 ≤ pg (3 * g + 1) - 48 ∧ pg (3 * g + 1) - 48 ≤ 9
      omega
    · show (0 : Int) ≤ 0 ∧ (0 : Int) ≤ 20
      decide
    · rw [e61]
      show (-1 : Int) ≤ -1 ∧ (-1 : Int) < 2 * nwW len pg
      omega
  · rw [e61] at q1
    have a1 := (s5 (3 * nwG len pg + w).toNat (by omega)).1 (by omega)
    rw [show (((3 * nwG len pg + w).toNat : Nat) : Int) = 3 * nwG len pg + w by omega] at a1
    unfold nervP at a1
    refine ⟨?_, ?_⟩
    · show 0 ≤ pg (3 * nwG len pg + w) - 48 ∧ pg (3 * nwG len pg + w) - 48 ≤ 9
      omega
    · show (0 : Int) ≤ 2 ∧ (2 : Int) ≤ 2
      decide
  · have q1 : i < 0 := q1
    exfalso; omega
theorem c_L_put {S I : Sh} {len c : Int} {pg : Int → Int} {im tr td : Int} {h : Hp} {Q : Int → Hp → Prop} (hK : KC S I len pg im tr td h) (hc : 32 ≤ c ∧ c ≤ 126) (hl : 0 ≤ len ∧ len < 26) (hq : ∀ h', KC S I (len + 1) (fun i => if i = len then c else pg i) im tr td h' → FrC h h' → True → Q 1 h') : CJ 3 kL_put [.ref 0, vi c] h Q := by
  have e1 : letV len c = len + 1 := by unfold letV; rw [if_neg (by omega), if_pos hl.2]
  have e2 : letL len c = len + 1 := by unfold letL; rw [if_pos ⟨hc, hl.2⟩]
  have e3 : letP len c pg = fun i => if i = len then c else pg i := by unfold letP; rw [if_pos ⟨hc, hl.2⟩]
  refine cj_of (lo := [some (.ref 0), some (vi c)]) mok_L_put (fun _ => rfl) (fun _ => Nat.le_of_ble_eq_true rfl) ?_
  refine xj_aload_n (pc2 := 1) dL_put_0 rfl rfl rfl ?_
  refine xj_iload_n (pc2 := 2) dL_put_1 rfl rfl rfl ?_
  refine xj_V1I (pc2 := 5) (d2 := 2) mok_X6_letter ml_L_8 ima_yX6_letter sel_yX6_letter rfl rfl dL_put_2 rfl rfl (by decide) (by decide) (Nat.le_of_ble_eq_true rfl) (fun _ => rfl) ?_
  refine c_X6_letter hK (by omega) ?_
  intro h2 hK2 hF2
  rw [e2, e3] at hK2
  rw [e1]
  refine xj_if_le (pc2 := 8) (tgt := 12) dL_put_5 rfl rfl (by omega) (fun c_5 => by exfalso; omega) (fun c_5 => ?_)
  refine xj_iconst (pc2 := 9) dL_put_8 rfl ?_
  refine xj_goto (tgt := 13) dL_put_9 rfl ?_
  refine xj_zret dL_put_13 rfl (by decide) ?_
  exact hq h2 hK2 hF2 trivial
def lt (k : Int) : Int := if k = 0 then 103 else if k = 1 then 107 else if k = 2 then 100 else if k = 3 then 111 else 108
theorem lt_k {k : Int} (h : 0 ≤ k ∧ k ≤ 4) : kindz (lt k) = k := by unfold lt kindz; (repeat' split) <;> omega
theorem lt_rg (k : Int) : 100 ≤ lt k ∧ lt k ≤ 111 := by unfold lt; (repeat' split) <;> omega
/-- the page that is written: n gloves, their kinds a and marks b, nerves v -/
def PGf (n : Int) (a b v : Int → Int) (i : Int) : Int := if i = 3 * n - 1 then 59 else if 3 * n ≤ i then 48 + v (i - 3 * n) else if i % 3 = 0 then lt (a (i / 3)) else if i % 3 = 1 then 48 + b (i / 3) else 44
theorem PG_0 {n : Int} {a b v : Int → Int} {g : Int} (hg : 0 ≤ g ∧ g < n) : PGf n a b v (3 * g) = lt (a g) := by
  unfold PGf
  rw [if_neg (by omega), if_neg (by omega), if_pos (by omega), show 3 * g / 3 = g by omega]
theorem PG_1 {n : Int} {a b v : Int → Int} {g : Int} (hg : 0 ≤ g ∧ g < n) : PGf n a b v (3 * g + 1) = 48 + b g := by
  unfold PGf
  rw [if_neg (by omega), if_neg (by omega), if_neg (by omega), if_pos (by omega), show (3 * g + 1) / 3 = g by omega]
theorem PG_2 {n : Int} {a b v : Int → Int} {g : Int} (hg : 0 ≤ g ∧ g < n - 1) : PGf n a b v (3 * g + 2) = 44 := by
  unfold PGf
  rw [if_neg (by omega), if_neg (by omega), if_neg (by omega), if_neg (by omega)]
theorem PG_3 {n : Int} {a b v : Int → Int} : PGf n a b v (3 * n - 1) = 59 := by
  unfold PGf
  rw [if_pos rfl]
theorem PG_4 {n : Int} {a b v : Int → Int} {w : Int} (hw : 0 ≤ w) : PGf n a b v (3 * n + w) = 48 + v w := by
  unfold PGf
  rw [if_neg (by omega), if_pos (by omega), show 3 * n + w - 3 * n = w by omega]
theorem page_ok {n m : Int} {a b v pg : Int → Int} (hn : 2 ≤ n ∧ n ≤ 6) (hm : 1 ≤ m ∧ m ≤ 3) (ha : ∀ g, 0 ≤ a g ∧ a g ≤ 4) (hb : ∀ g, 0 ≤ b g ∧ b g ≤ 9) (hv : ∀ g, 0 ≤ v g ∧ v g ≤ 9) (hp : ∀ i, 0 ≤ i → i < 3 * n + m → pg i = PGf n a b v i) : semZ (3 * n + m) pg = 3 * n - 1 ∧ fltZ (3 * n + m) pg = 3 * n + m ∧ shopP (3 * n + m) pg ∧ nwG (3 * n + m) pg = n ∧ nwW (3 * n + m) pg = m := by
  have hs : semZ (3 * n + m) pg = 3 * n - 1 := by
    have e : ((3 * n - 1).toNat : Int) = 3 * n - 1 := by omega
    rw [← e]
    refine sem_at (by omega) (fun i hi => ?_) ?_
    · rw [hp i (by omega) (by omega)]
      have h1 := lt_rg (a ((i : Int) / 3))
      have h2 := hb ((i : Int) / 3)
      unfold PGf
      rw [if_neg (by omega), if_neg (by omega)]
      (repeat' split) <;> omega
    · rw [hp _ (by omega) (by omega), e]
      exact PG_3
  have hok : ∀ i : Nat, (i : Int) < 3 * n + m → okP (3 * n + m) pg i := by
    intro i hi
    unfold okP
    rw [hs, hp i (by omega) hi]
    refine ⟨fun q => ?_, fun q => ?_⟩
    · unfold nervP PGf
      have h2 := hv ((i : Int) - 3 * n)
      rw [if_neg (by omega), if_pos (by omega)]
      omega
    · unfold ofGP PGf
      have h1 := lt_k (ha ((i : Int) / 3))
      have h2 := hb ((i : Int) / 3)
      have h3 := ha ((i : Int) / 3)
      by_cases e : (i : Int) = 3 * n - 1
      · rw [if_pos e]; exact Or.inr (Or.inr ⟨by omega, Or.inr ⟨rfl, by omega⟩⟩)
      · rw [if_neg e, if_neg (by omega)]
        by_cases e0 : (i : Int) % 3 = 0
        · rw [if_pos e0]; exact Or.inl ⟨e0, by omega⟩
        · rw [if_neg e0]
          by_cases e1 : (i : Int) % 3 = 1
          · rw [if_pos e1]; exact Or.inr (Or.inl ⟨e1, by omega⟩)
          · rw [if_neg e1]; exact Or.inr (Or.inr ⟨by omega, Or.inl ⟨rfl, by omega⟩⟩)
  have hf : fltZ (3 * n + m) pg = 3 * n + m := flt_no (by omega) hok
  exact ⟨hs, hf, ⟨by omega, by omega, hf⟩, by unfold nwG; omega, by unfold nwW; omega⟩
def kS (x g : Int) : Int := band (bshr x (3 + 3 * g)) 7 % 5
def gS (y g : Int) : Int := band (bshr y (2 + 3 * g)) 15 % 10
def vS (x g : Int) : Int := band (bshr x (16 + 3 * g)) 15 % 10
theorem kS_rg (x g : Int) : 0 ≤ kS x g ∧ kS x g ≤ 4 := by have := band_7 (bshr x (3 + 3 * g)); unfold kS; omega
theorem gS_rg (x g : Int) : 0 ≤ gS x g ∧ gS x g ≤ 9 := by have := band_15 (bshr x (2 + 3 * g)); unfold gS; omega
theorem vS_rg (x g : Int) : 0 ≤ vS x g ∧ vS x g ≤ 9 := by have := band_15 (bshr x (16 + 3 * g)); unfold vS; omega
/-- the law's array, j gloves of it written -/
def WJ (n m : Int) (a b : Int → Int) (j : Int) (h : Hp) : Prop := (h 145 0 = n ∧ h 145 1 = m ∧ h 145 2 = 0) ∧ ∀ g, 0 ≤ g → g < j → h 145 (9 + 5 * g) = a g ∧ h 145 (10 + 5 * g) = b g ∧ h 145 (11 + 5 * g) = 0 ∧ h 145 (12 + 5 * g) = -1 ∧ h 145 (13 + 5 * g) = -1
theorem WJ_eq {n m j : Int} {a b : Int → Int} {h h' : Hp} (w : WJ n m a b j h) (e : ∀ k, (k < 3 ∨ 9 ≤ k) → h' 145 k = h 145 k) : WJ n m a b j h' := by
  obtain ⟨⟨a1, a2, a3⟩, hG⟩ := w
  refine ⟨⟨by rw [e _ (by omega), a1], by rw [e _ (by omega), a2], by rw [e _ (by omega), a3]⟩, fun g h0 h1 => ?_⟩
  obtain ⟨b1, b2, b3, b4, b5⟩ := hG g h0 h1
  exact ⟨by rw [e _ (by omega), b1], by rw [e _ (by omega), b2], by rw [e _ (by omega), b3], by rw [e _ (by omega), b4], by rw [e _ (by omega), b5]⟩
theorem wjb {n m j g i : Int} {a b : Int → Int} {h : Hp} (w : WJ n m a b j h) (hg : 0 ≤ g ∧ g < j) (hi : i = 10 + 5 * g) : h 145 i = b g := by rw [hi]; exact (w.2 g hg.1 hg.2).2.1
def lenG (j : Nat) : Int := if j = 0 then 0 else 3 * j - 1
theorem KC_w {S I : Sh} {len : Int} {pg : Int → Int} {im tr td : Int} {h h' : Hp} (hK : KC S I len pg im tr td h) (e : ∀ c k, c < 145 → h' c k = h c k) : KC S I len pg im tr td h' := KC_eq hK (fun c k q => e c k (by unfold LC at q; omega))
theorem pg_put {len c : Int} {pg p : Int → Int} (hp : ∀ i, 0 ≤ i → i < len → pg i = p i) (hc : c = p len) : ∀ i, 0 ≤ i → i < len + 1 → (fun i => if i = len then c else pg i) i = p i := by
  intro i h0 h1
  show (if i = len then c else pg i) = p i
  by_cases e : i = len
  · rw [if_pos e, e, hc]
  · rw [if_neg e, hp i h0 (by omega)]
theorem c_L_shop {S I : Sh} {pg : Int → Int} {tr x y : Int} {h : Hp} {Q : Int → Hp → Prop} (hK : KC S I 0 pg 0 tr 0 h) (hx : 0 ≤ x ∧ x ≤ 2147483647) (hy : 0 ≤ y ∧ y ≤ 2147483647) (hq : ∀ (S' : Sh) (pg' : Int → Int) (h' : Hp), KC S' I 0 pg' 0 (tr + 1) 0 h' → WF S' → S' 6 2 = 0 → S' 6 3 = 0 → 0 < S' 6 0 → RW 145 S' h' → h' 145 2 = 0 → True → Q 1 h') : CJ 6 kL_shop [.ref 0, vi x, vi y, .ref 145] h Q := by
  obtain ⟨n, hn⟩ : ∃ n : Nat, 2 + x % 5 = (n : Int) := ⟨(2 + x % 5).toNat, by omega⟩
  obtain ⟨m, hm⟩ : ∃ m : Nat, 1 + y % 3 = (m : Int) := ⟨(1 + y % 3).toNat, by omega⟩
  have hn2 : 2 ≤ (n : Int) ∧ (n : Int) ≤ 6 := by omega
  have hm2 : 1 ≤ (m : Int) ∧ (m : Int) ≤ 3 := by omega
  -- the wearers
  have wear : ∀ (h1 : Hp) (pg1 : Int → Int), KC S I (3 * (n : Int)) pg1 0 tr 0 h1 → (∀ i, 0 ≤ i → i < 3 * (n : Int) → pg1 i = PGf n (kS x) (gS y) (vS x) i) → WJ n m (kS x) (gS y) n h1 → XJ none 6 kL_shop h1 229 [some (.ref 0), some (vi x), some (vi y), some (.ref 145), some (vi 1), some (vi 0), none, none] [] Q := by
    intro h1 pg1 hK1 hp1 hw1
    refine down (P := fun j => ∀ (h' : Hp) (pg' : Int → Int), KC S I (3 * (n : Int) + j) pg' 0 tr 0 h' → (∀ i, 0 ≤ i → i < 3 * (n : Int) + j → pg' i = PGf n (kS x) (gS y) (vS x) i) → WJ n m (kS x) (gS y) n h' → (∀ w, 0 ≤ w → w < (j : Int) → h' 145 (3 + w) = vS x w ∧ h' 145 (6 + w) = 2) → XJ none 6 kL_shop h' 229 [some (.ref 0), some (vi x), some (vi y), some (.ref 145), some (vi 1), some (vi j), none, none] [] Q) (n := m) ?_ ?_ h1 pg1 (by rw [show (3 * (n : Int) + (0 : Nat)) = 3 * (n : Int) by omega]; exact hK1) (fun i h0 h1 => hp1 i h0 (by omega)) hw1 (fun w h0 h1 => by omega)
    · intro h' pg' hK hp hw hv
      obtain ⟨o1, o2, o3, o4, o5⟩ := page_ok hn2 hm2 (kS_rg x) (gS_rg y) (vS_rg x) hp
      obtain ⟨⟨a1, a2, a3⟩, hG⟩ := id hw
      have hwf := WF_new (pg := pg') (len := 3 * (n : Int) + m) (by omega) o3
      rw [o4, o5] at hwf
      have e0 : ∀ g, 0 ≤ g → g < (n : Int) → kindz (pg' (3 * g)) = kS x g := fun g h0 h1 => by rw [hp _ (by omega) (by omega), PG_0 ⟨h0, h1⟩, lt_k (kS_rg x g)]
      have e1 : ∀ g, 0 ≤ g → g < (n : Int) → pg' (3 * g + 1) - 48 = gS y g := fun g h0 h1 => by rw [hp _ (by omega) (by omega), PG_1 ⟨h0, h1⟩]; omega
      have e2 : ∀ w, 0 ≤ w → w < (m : Int) → pg' (3 * (n : Int) + w) - 48 = vS x w := fun w h0 h1 => by rw [hp _ (by omega) (by omega), PG_4 h0]; omega
      have fin : ∀ h4 : Hp, (∀ k, h4 145 k = h' 145 k) → RW 145 (newS pg' n m) h4 := by
        intro h4 e
        refine ⟨⟨by rw [e, a1]; rfl, by rw [e, a2]; rfl⟩, fun g h0 h1 => ?_, fun w h0 h1 => ?_⟩
        · have h1 : g < (n : Int) := h1
          obtain ⟨b1, b2, b3, b4, b5⟩ := hG g h0 h1
          exact ⟨by rw [e, b1]; exact (e0 g h0 h1).symm, by rw [e, b2]; exact (e1 g h0 h1).symm, by rw [e, b3]; rfl, by rw [e, b4]; rfl, by rw [e, b5]; rfl⟩
        · have h1 : w < (m : Int) := h1
          obtain ⟨b1, b2⟩ := hv w h0 h1
          exact ⟨by rw [e, b1]; exact (e2 w h0 h1).symm, by rw [e, b2]; rfl⟩
      refine xj_iload (pc2 := 231) dL_shop_229 rfl rfl ?_
      refine xj_aload_n (pc2 := 232) dL_shop_231 rfl rfl rfl ?_
      refine xj_iconst (pc2 := 233) dL_shop_232 rfl ?_
      refine xj_iald (pc2 := 234) dL_shop_233 rfl rfl (by omega) (by omega) a2 ?_
      refine xj_cmp_ge (pc2 := 237) (tgt := 300) dL_shop_234 rfl rfl (by omega) (by omega) (fun c_234 => ?_) (fun c_234 => by exfalso; omega)
      refine xj_iload (pc2 := 302) dL_shop_300 rfl rfl ?_
      refine xj_if_eq (pc2 := 305) (tgt := 335) dL_shop_302 rfl rfl (by omega) (fun c_302 => absurd c_302 (by decide)) (fun c_302 => ?_)
      refine xj_aload_n (pc2 := 306) dL_shop_305 rfl rfl rfl ?_
      refine xj_V0I (pc2 := 309) (d2 := 4) mok_X6_fault ml_L_20 ima_yX6_fault sel_yX6_fault rfl rfl dL_shop_306 rfl rfl (by decide) (by decide) (Nat.le_of_ble_eq_true rfl) (fun _ => rfl) ?_
      refine c_X6_fault hK ?_
      intro h2 hK2 hF2
      rw [o2]
      refine xj_iconst (pc2 := 310) dL_shop_309 rfl ?_
      refine xj_aload_n (pc2 := 311) dL_shop_310 rfl rfl rfl ?_
      refine xj_iconst (pc2 := 312) dL_shop_311 rfl ?_
      refine xj_iald (pc2 := 313) dL_shop_312 rfl rfl (by omega) (by omega) ((hF2 145 0 (by omega)).trans a1) ?_
      refine xj_imul (pc2 := 314) dL_shop_313 rfl ?_
      refine xj_aload_n (pc2 := 315) dL_shop_314 rfl rfl rfl ?_
      refine xj_iconst (pc2 := 316) dL_shop_315 rfl ?_
      refine xj_iald (pc2 := 317) dL_shop_316 rfl rfl (by omega) (by omega) ((hF2 145 1 (by omega)).trans a2) ?_
      refine xj_iadd (pc2 := 318) dL_shop_317 rfl ?_
      refine xj_cmp_ne (pc2 := 321) (tgt := 335) dL_shop_318 rfl rfl (by omega) (by omega) (fun c_318 => by exfalso; omega) (fun c_318 => ?_)
      refine xj_aload_n (pc2 := 322) dL_shop_321 rfl rfl rfl ?_
      refine xj_V0I (pc2 := 325) (d2 := 5) mok_X6_shop ml_L_24 ima_yX6_shop sel_yX6_shop rfl rfl dL_shop_322 rfl rfl (by decide) (by decide) (Nat.le_of_ble_eq_true rfl) (fun _ => rfl) ?_
      refine c_X6_shop hK2 (fun hs h4 hK4 hF4 => ?_) (fun hs => absurd o3 hs)
      rw [o4]
      rw [o4, o5] at hK4
      refine xj_aload_n (pc2 := 326) dL_shop_325 rfl rfl rfl ?_
      refine xj_iconst (pc2 := 327) dL_shop_326 rfl ?_
      refine xj_iald (pc2 := 328) dL_shop_327 rfl rfl (by omega) (by omega) ((hF4 145 0 (by omega)).trans ((hF2 145 0 (by omega)).trans a1)) ?_
      refine xj_cmp_ne (pc2 := 331) (tgt := 335) dL_shop_328 rfl rfl (by omega) (by omega) (fun c_328 => by exfalso; omega) (fun c_328 => ?_)
      refine xj_iconst (pc2 := 332) dL_shop_331 rfl ?_
      refine xj_goto (tgt := 336) dL_shop_332 rfl ?_
      refine xj_zret dL_shop_336 rfl (by decide) ?_
      exact hq (newS pg' n m) pg' h4 hK4 hwf rfl rfl (by show 0 < (n : Int); omega) (fin h4 (fun k => (hF4 145 k (by omega)).trans (hF2 145 k (by omega)))) ((hF4 145 2 (by omega)).trans ((hF2 145 2 (by omega)).trans a3)) trivial
    · intro j hj ih h' pg' hK hp hw hv
      obtain ⟨⟨a1, a2, a3⟩, hG⟩ := id hw
      have hb15 := band_15 (bshr x (16 + 3 * (j : Int)))
      have hvr := vS_rg x j
      have step : ∀ h3 : Hp, (∀ c k, c ≠ 145 → h3 c k = h' c k) → (∀ k, k ≠ 3 + (j : Int) → k ≠ 6 + (j : Int) → h3 145 k = h' 145 k) → h3 145 (3 + (j : Int)) = vS x j → h3 145 (6 + (j : Int)) = 2 → XJ none 6 kL_shop h3 266 [some (.ref 0), some (vi x), some (vi y), some (.ref 145), some (vi 1), some (vi j), none, none] [] Q := by
        intro h3 g1 g2 g3 g4
        have hK := KC_w hK (fun c k hc => g1 c k (by omega))
        refine xj_iload (pc2 := 268) dL_shop_266 rfl rfl ?_
        refine xj_if_eq (pc2 := 271) (tgt := 291) dL_shop_268 rfl rfl (by omega) (fun c_268 => absurd c_268 (by decide)) (fun c_268 => ?_)
        refine xj_aload_n (pc2 := 272) dL_shop_271 rfl rfl rfl ?_
        refine xj_bipush (pc2 := 274) dL_shop_272 rfl (by decide) ?_
        refine xj_aload_n (pc2 := 275) dL_shop_274 rfl rfl rfl ?_
        refine xj_iconst (pc2 := 276) dL_shop_275 rfl ?_
        refine xj_iload (pc2 := 278) dL_shop_276 rfl rfl ?_
        refine xj_iadd (pc2 := 279) dL_shop_278 rfl ?_
        refine xj_iald (pc2 := 280) dL_shop_279 rfl rfl (by omega) (by omega) g3 ?_
        refine xj_iadd (pc2 := 281) dL_shop_280 rfl ?_
        refine xj_S2I (pc2 := 284) (d2 := 3) mok_L_put ml_L_14 sta_yL_put dL_shop_281 rfl rfl (by decide) (by decide) (Nat.le_of_ble_eq_true rfl) (fun _ => rfl) ?_
        refine c_L_put hK (by omega) (by omega) ?_
        intro h2 hK2 hF2
        · -- L_put = 1
          intro c_281
          refine xj_if_eq (pc2 := 287) (tgt := 291) dL_shop_284 rfl rfl (by omega) (fun c_284 => absurd c_284 (by decide)) (fun c_284 => ?_)
          refine xj_iconst (pc2 := 288) dL_shop_287 rfl ?_
          refine xj_goto (tgt := 292) dL_shop_288 rfl ?_
          refine xj_istore4 (pc2 := 294) dL_shop_292 rfl (by decide) rfl ?_
          refine xj_iinc5 (pc2 := 297) dL_shop_294 rfl (by decide) rfl ?_
          refine xj_goto (tgt := 229) dL_shop_297 rfl ?_
          refine ih h2 _ (by rw [show 3 * (n : Int) + ((j + 1 : Nat) : Int) = 3 * (n : Int) + j + 1 by omega]; exact hK2) (by rw [show 3 * (n : Int) + ((j + 1 : Nat) : Int) = 3 * (n : Int) + j + 1 by omega]; exact pg_put hp (PG_4 (by omega)).symm) (WJ_eq hw (fun k hk => (hF2 145 k (by omega)).trans (g2 k (by omega) (by omega)))) (fun w q0 q1 => ?_)
          by_cases e : w = (j : Int)
          · subst e; exact ⟨(hF2 145 _ (by omega)).trans g3, (hF2 145 _ (by omega)).trans g4⟩
          · have hh := hv w q0 (by omega)
            exact ⟨((hF2 145 _ (by omega)).trans (g2 _ (by omega) (by omega))).trans hh.1, ((hF2 145 _ (by omega)).trans (g2 _ (by omega) (by omega))).trans hh.2⟩
      refine xj_iload (pc2 := 231) dL_shop_229 rfl rfl ?_
      refine xj_aload_n (pc2 := 232) dL_shop_231 rfl rfl rfl ?_
      refine xj_iconst (pc2 := 233) dL_shop_232 rfl ?_
      refine xj_iald (pc2 := 234) dL_shop_233 rfl rfl (by omega) (by omega) a2 ?_
      refine xj_cmp_ge (pc2 := 237) (tgt := 300) dL_shop_234 rfl rfl (by omega) (by omega) (fun c_234 => by exfalso; omega) (fun c_234 => ?_)
      refine xj_aload_n (pc2 := 238) dL_shop_237 rfl rfl rfl ?_
      refine xj_iconst (pc2 := 239) dL_shop_238 rfl ?_
      refine xj_iload (pc2 := 241) dL_shop_239 rfl rfl ?_
      refine xj_iadd (pc2 := 242) dL_shop_241 rfl ?_
      refine xj_iload_n (pc2 := 243) dL_shop_242 rfl rfl rfl ?_
      refine xj_bipush (pc2 := 245) dL_shop_243 rfl (by decide) ?_
      refine xj_iconst (pc2 := 246) dL_shop_245 rfl ?_
      refine xj_iload (pc2 := 248) dL_shop_246 rfl rfl ?_
      refine xj_imul (pc2 := 249) dL_shop_248 rfl ?_
      refine xj_iadd (pc2 := 250) dL_shop_249 rfl ?_
      refine xj_ishr (pc2 := 251) dL_shop_250 rfl ?_
      refine xj_bipush (pc2 := 253) dL_shop_251 rfl (by decide) ?_
      refine xj_iand (pc2 := 254) dL_shop_253 rfl ?_
      refine xj_bipush (pc2 := 256) dL_shop_254 rfl (by decide) ?_
      refine xj_irem (pc2 := 257) dL_shop_256 rfl (by omega) (by omega) ?_
      refine xj_iast (pc2 := 258) dL_shop_257 rfl rfl (by omega) (by omega) ?_
      refine xj_aload_n (pc2 := 259) dL_shop_258 rfl rfl rfl ?_
      refine xj_bipush (pc2 := 261) dL_shop_259 rfl (by decide) ?_
      refine xj_iload (pc2 := 263) dL_shop_261 rfl rfl ?_
      refine xj_iadd (pc2 := 264) dL_shop_263 rfl ?_
      refine xj_iconst (pc2 := 265) dL_shop_264 rfl ?_
      refine xj_iast (pc2 := 266) dL_shop_265 rfl rfl (by omega) (by omega) ?_
      exact step _ (fun c k hc => (by unfold hset; (repeat' split) <;> first | rfl | omega)) (fun k q0 q1 => (by unfold hset; (repeat' split) <;> first | rfl | omega)) (by unfold hset; (repeat' split) <;> first | rfl | omega) (by unfold hset; (repeat' split) <;> first | rfl | omega)
  -- the gloves
  have glov : ∀ (h1 : Hp), KC S I 0 pg 0 tr 0 h1 → WJ n m (kS x) (gS y) 0 h1 → XJ none 6 kL_shop h1 26 [some (.ref 0), some (vi x), some (vi y), some (.ref 145), some (vi 1), some (vi 0), none, none] [] Q := by
    intro h1 hK1 hw1
    refine down (P := fun j => ∀ (h' : Hp) (pg' : Int → Int), KC S I (lenG j) pg' 0 tr 0 h' → (∀ i, 0 ≤ i → i < lenG j → pg' i = PGf n (kS x) (gS y) (vS x) i) → WJ n m (kS x) (gS y) j h' → XJ none 6 kL_shop h' 26 [some (.ref 0), some (vi x), some (vi y), some (.ref 145), some (vi 1), some (vi j), none, none] [] Q) (n := n) ?_ ?_ h1 pg hK1 (fun i h0 h1 => by have h1 : i < 0 := h1; exfalso; omega) hw1
    · intro h' pg' hK hp hw
      have e : lenG n = 3 * (n : Int) - 1 := by unfold lenG; rw [if_neg (by omega)]
      rw [e] at hK hp
      obtain ⟨⟨a1, a2, a3⟩, hG⟩ := id hw
      refine xj_iload (pc2 := 28) dL_shop_26 rfl rfl ?_
      refine xj_aload_n (pc2 := 29) dL_shop_28 rfl rfl rfl ?_
      refine xj_iconst (pc2 := 30) dL_shop_29 rfl ?_
      refine xj_iald (pc2 := 31) dL_shop_30 rfl rfl (by omega) (by omega) a1 ?_
      refine xj_cmp_ge (pc2 := 34) (tgt := 205) dL_shop_31 rfl rfl (by omega) (by omega) (fun c_31 => ?_) (fun c_31 => by exfalso; omega)
      refine xj_iload (pc2 := 207) dL_shop_205 rfl rfl ?_
      refine xj_if_eq (pc2 := 210) (tgt := 223) dL_shop_207 rfl rfl (by omega) (fun c_207 => absurd c_207 (by decide)) (fun c_207 => ?_)
      refine xj_aload_n (pc2 := 211) dL_shop_210 rfl rfl rfl ?_
      refine xj_bipush (pc2 := 213) dL_shop_211 rfl (by decide) ?_
      refine xj_S2I (pc2 := 216) (d2 := 3) mok_L_put ml_L_14 sta_yL_put dL_shop_213 rfl rfl (by decide) (by decide) (Nat.le_of_ble_eq_true rfl) (fun _ => rfl) ?_
      refine c_L_put hK (by omega) (by omega) ?_
      intro h2 hK2 hF2
      · -- L_put = 1
        intro c_213
        refine xj_if_eq (pc2 := 219) (tgt := 223) dL_shop_216 rfl rfl (by omega) (fun c_216 => absurd c_216 (by decide)) (fun c_216 => ?_)
        refine xj_iconst (pc2 := 220) dL_shop_219 rfl ?_
        refine xj_goto (tgt := 224) dL_shop_220 rfl ?_
        refine xj_istore4 (pc2 := 226) dL_shop_224 rfl (by decide) rfl ?_
        refine xj_iconst (pc2 := 227) dL_shop_226 rfl ?_
        refine xj_istore5 (pc2 := 229) dL_shop_227 rfl (by decide) rfl ?_
        rw [show 3 * (n : Int) - 1 + 1 = 3 * (n : Int) by omega] at hK2
        exact wear h2 _ hK2 (fun i q0 q1 => pg_put hp PG_3.symm i q0 (by omega)) (WJ_eq hw (fun k hk => hF2 145 k (by omega)))
    · intro j hj ih h' pg' hK hp hw
      obtain ⟨⟨a1, a2, a3⟩, hG⟩ := id hw
      have hk7 := band_7 (bshr x (3 + 3 * (j : Int)))
      have hk15 := band_15 (bshr y (2 + 3 * (j : Int)))
      have hkr := kS_rg x j
      have hgr := gS_rg y j
      have hlt := lt_rg (kS x j)
      have hlr : 0 ≤ lenG j ∧ lenG j ≤ 16 := by unfold lenG; split <;> omega
      have s170 : ∀ (h3 : Hp) (pg3 : Int → Int), KC S I (3 * (j : Int)) pg3 0 tr 0 h3 → (∀ i, 0 ≤ i → i < 3 * (j : Int) → pg3 i = PGf n (kS x) (gS y) (vS x) i) → WJ n m (kS x) (gS y) ((j + 1 : Nat) : Int) h3 → ∀ v, v = lt (kS x j) → XJ none 6 kL_shop h3 170 [some (.ref 0), some (vi x), some (vi y), some (.ref 145), some (vi 1), some (vi j), some (vi (9 + 5 * (j : Int))), some (vi (kS x j))] [vi v, .ref 0] Q := by
        intro h3 pg3 hK hp hw v hv
        have el : lenG (j + 1) = 3 * (j : Int) + 1 + 1 := by unfold lenG; rw [if_neg (by omega)]; omega
        refine xj_S2I (pc2 := 173) (d2 := 3) mok_L_put ml_L_14 sta_yL_put dL_shop_170 rfl rfl (by decide) (by decide) (Nat.le_of_ble_eq_true rfl) (fun _ => rfl) ?_
        refine c_L_put hK (by omega) (by omega) ?_
        intro h2 hK2 hF2
        · -- L_put = 1
          intro c_170
          refine xj_if_eq (pc2 := 176) (tgt := 196) dL_shop_173 rfl rfl (by omega) (fun c_173 => absurd c_173 (by decide)) (fun c_173 => ?_)
          have hw2 := WJ_eq hw (fun k _ => hF2 145 k (by omega))
          refine xj_aload_n (pc2 := 177) dL_shop_176 rfl rfl rfl ?_
          refine xj_bipush (pc2 := 179) dL_shop_177 rfl (by decide) ?_
          refine xj_aload_n (pc2 := 180) dL_shop_179 rfl rfl rfl ?_
          refine xj_iload (pc2 := 182) dL_shop_180 rfl rfl ?_
          refine xj_iconst (pc2 := 183) dL_shop_182 rfl ?_
          refine xj_iadd (pc2 := 184) dL_shop_183 rfl ?_
          refine xj_iald (pc2 := 185) dL_shop_184 rfl rfl (by omega) (by omega) (wjb (g := (j : Int)) hw2 (by omega) (by omega)) ?_
          refine xj_iadd (pc2 := 186) dL_shop_185 rfl ?_
          refine xj_S2I (pc2 := 189) (d2 := 3) mok_L_put ml_L_14 sta_yL_put dL_shop_186 rfl rfl (by decide) (by decide) (Nat.le_of_ble_eq_true rfl) (fun _ => rfl) ?_
          refine c_L_put hK2 (by omega) (by omega) ?_
          intro h4 hK4 hF4
          · -- L_put = 1
            intro c_186
            refine xj_if_eq (pc2 := 192) (tgt := 196) dL_shop_189 rfl rfl (by omega) (fun c_189 => absurd c_189 (by decide)) (fun c_189 => ?_)
            refine xj_iconst (pc2 := 193) dL_shop_192 rfl ?_
            refine xj_goto (tgt := 197) dL_shop_193 rfl ?_
            refine xj_istore4 (pc2 := 199) dL_shop_197 rfl (by decide) rfl ?_
            refine xj_iinc5 (pc2 := 202) dL_shop_199 rfl (by decide) rfl ?_
            refine xj_goto (tgt := 26) dL_shop_202 rfl ?_
            exact xj_sub (by repeat (first | exact subL_nil | apply subL_none | apply subL_some rfl)) (ih h4 _ (by rw [el]; exact hK4) (by rw [el]; exact pg_put (pg_put hp (hv.trans (PG_0 (by omega)).symm)) (PG_1 (by omega)).symm) (WJ_eq hw2 (fun k _ => hF4 145 k (by omega))))
      have s124 : ∀ (h3 : Hp) (pg3 : Int → Int), KC S I (3 * (j : Int)) pg3 0 tr 0 h3 → (∀ i, 0 ≤ i → i < 3 * (j : Int) → pg3 i = PGf n (kS x) (gS y) (vS x) i) → WJ n m (kS x) (gS y) ((j + 1 : Nat) : Int) h3 → XJ none 6 kL_shop h3 124 [some (.ref 0), some (vi x), some (vi y), some (.ref 145), some (vi 1), some (vi j), some (vi (9 + 5 * (j : Int))), some (vi (kS x j))] [] Q := by
        intro h3 pg3 hK hp hw
        refine xj_aload_n (pc2 := 125) dL_shop_124 rfl rfl rfl ?_
        refine xj_iload (pc2 := 127) dL_shop_125 rfl rfl ?_
        refine xj_if_ne (pc2 := 130) (tgt := 135) dL_shop_127 rfl rfl (by omega) (fun c_127 => ?_) (fun c_127 => ?_)
        · -- 135
          refine xj_iload (pc2 := 137) dL_shop_135 rfl rfl ?_
          refine xj_iconst (pc2 := 138) dL_shop_137 rfl ?_
          refine xj_cmp_ne (pc2 := 141) (tgt := 146) dL_shop_138 rfl rfl (by omega) (by omega) (fun c_138 => ?_) (fun c_138 => ?_)
          · -- 146
            refine xj_iload (pc2 := 148) dL_shop_146 rfl rfl ?_
            refine xj_iconst (pc2 := 149) dL_shop_148 rfl ?_
            refine xj_cmp_ne (pc2 := 152) (tgt := 157) dL_shop_149 rfl rfl (by omega) (by omega) (fun c_149 => ?_) (fun c_149 => ?_)
            · -- 157
              refine xj_iload (pc2 := 159) dL_shop_157 rfl rfl ?_
              refine xj_iconst (pc2 := 160) dL_shop_159 rfl ?_
              refine xj_cmp_ne (pc2 := 163) (tgt := 168) dL_shop_160 rfl rfl (by omega) (by omega) (fun c_160 => ?_) (fun c_160 => ?_)
              · -- 168
                refine xj_bipush (pc2 := 170) dL_shop_168 rfl (by decide) ?_
                exact s170 h3 pg3 hK hp hw _ (by unfold lt; (repeat' split) <;> omega)
              · -- 163
                refine xj_bipush (pc2 := 165) dL_shop_163 rfl (by decide) ?_
                refine xj_goto (tgt := 170) dL_shop_165 rfl ?_
                exact s170 h3 pg3 hK hp hw _ (by unfold lt; (repeat' split) <;> omega)
            · -- 152
              refine xj_bipush (pc2 := 154) dL_shop_152 rfl (by decide) ?_
              refine xj_goto (tgt := 170) dL_shop_154 rfl ?_
              exact s170 h3 pg3 hK hp hw _ (by unfold lt; (repeat' split) <;> omega)
          · -- 141
            refine xj_bipush (pc2 := 143) dL_shop_141 rfl (by decide) ?_
            refine xj_goto (tgt := 170) dL_shop_143 rfl ?_
            exact s170 h3 pg3 hK hp hw _ (by unfold lt; (repeat' split) <;> omega)
        · -- 130
          refine xj_bipush (pc2 := 132) dL_shop_130 rfl (by decide) ?_
          refine xj_goto (tgt := 170) dL_shop_132 rfl ?_
          exact s170 h3 pg3 hK hp hw _ (by unfold lt; (repeat' split) <;> omega)
      have s105 : ∀ (h3 : Hp), KC S I (lenG j) pg' 0 tr 0 h3 → WJ n m (kS x) (gS y) ((j + 1 : Nat) : Int) h3 → XJ none 6 kL_shop h3 105 [some (.ref 0), some (vi x), some (vi y), some (.ref 145), some (vi 1), some (vi j), some (vi (9 + 5 * (j : Int))), some (vi (kS x j))] [] Q := by
        intro h3 hK hw
        have e0 : (j : Int) = 0 → lenG j = 3 * (j : Int) := fun q => by unfold lenG; rw [if_pos (by omega)]; omega
        have e1 : ¬ (j : Int) = 0 → lenG j = 3 * (j : Int) - 1 := fun q => by unfold lenG; rw [if_neg (by omega)]
        refine xj_iload (pc2 := 107) dL_shop_105 rfl rfl ?_
        refine xj_if_eq (pc2 := 110) (tgt := 196) dL_shop_107 rfl rfl (by omega) (fun c_107 => absurd c_107 (by decide)) (fun c_107 => ?_)
        refine xj_iload (pc2 := 112) dL_shop_110 rfl rfl ?_
        refine xj_if_eq (pc2 := 115) (tgt := 124) dL_shop_112 rfl rfl (by omega) (fun c_112 => ?_) (fun c_112 => ?_)
        · -- 124
          first
          | exact s124 h2 _ (by rw [show 3 * (j : Int) = lenG j + 1 by have := e1 c_112; omega]; exact hK2) (by rw [show 3 * (j : Int) = lenG j + 1 by have := e1 c_112; omega]; exact pg_put hp (by rw [e1 c_112, show 3 * (j : Int) - 1 = 3 * ((j : Int) - 1) + 2 by omega, PG_2 (by omega)])) (WJ_eq hw (fun k _ => hF2 145 k (by omega)))
          | exact s124 h3 pg' (by rw [← e0 c_112]; exact hK) (by rw [← e0 c_112]; exact hp) hw
        · -- 115
          refine xj_aload_n (pc2 := 116) dL_shop_115 rfl rfl rfl ?_
          refine xj_bipush (pc2 := 118) dL_shop_116 rfl (by decide) ?_
          refine xj_S2I (pc2 := 121) (d2 := 3) mok_L_put ml_L_14 sta_yL_put dL_shop_118 rfl rfl (by decide) (by decide) (Nat.le_of_ble_eq_true rfl) (fun _ => rfl) ?_
          refine c_L_put hK (by omega) (by omega) ?_
          intro h2 hK2 hF2
          · -- L_put = 1
            intro c_118
            refine xj_if_eq (pc2 := 124) (tgt := 196) dL_shop_121 rfl rfl (by omega) (fun c_121 => absurd c_121 (by decide)) (fun c_121 => ?_)
            first
            | exact s124 h2 _ (by rw [show 3 * (j : Int) = lenG j + 1 by have := e1 c_112; omega]; exact hK2) (by rw [show 3 * (j : Int) = lenG j + 1 by have := e1 c_112; omega]; exact pg_put hp (by rw [e1 c_112, show 3 * (j : Int) - 1 = 3 * ((j : Int) - 1) + 2 by omega, PG_2 (by omega)])) (WJ_eq hw (fun k _ => hF2 145 k (by omega)))
            | exact s124 h3 pg' (by rw [← e0 c_112]; exact hK) (by rw [← e0 c_112]; exact hp) hw
      refine xj_iload (pc2 := 28) dL_shop_26 rfl rfl ?_
      refine xj_aload_n (pc2 := 29) dL_shop_28 rfl rfl rfl ?_
      refine xj_iconst (pc2 := 30) dL_shop_29 rfl ?_
      refine xj_iald (pc2 := 31) dL_shop_30 rfl rfl (by omega) (by omega) a1 ?_
      refine xj_cmp_ge (pc2 := 34) (tgt := 205) dL_shop_31 rfl rfl (by omega) (by omega) (fun c_31 => by exfalso; omega) (fun c_31 => ?_)
      refine xj_bipush (pc2 := 36) dL_shop_34 rfl (by decide) ?_
      refine xj_iconst (pc2 := 37) dL_shop_36 rfl ?_
      refine xj_iload (pc2 := 39) dL_shop_37 rfl rfl ?_
      refine xj_imul (pc2 := 40) dL_shop_39 rfl ?_
      refine xj_iadd (pc2 := 41) dL_shop_40 rfl ?_
      refine xj_istore6 (pc2 := 43) dL_shop_41 rfl (by decide) rfl ?_
      refine xj_iload_n (pc2 := 44) dL_shop_43 rfl rfl rfl ?_
      refine xj_iconst (pc2 := 45) dL_shop_44 rfl ?_
      refine xj_iconst (pc2 := 46) dL_shop_45 rfl ?_
      refine xj_iload (pc2 := 48) dL_shop_46 rfl rfl ?_
      refine xj_imul (pc2 := 49) dL_shop_48 rfl ?_
      refine xj_iadd (pc2 := 50) dL_shop_49 rfl ?_
      refine xj_ishr (pc2 := 51) dL_shop_50 rfl ?_
      refine xj_bipush (pc2 := 53) dL_shop_51 rfl (by decide) ?_
      refine xj_iand (pc2 := 54) dL_shop_53 rfl ?_
      refine xj_iconst (pc2 := 55) dL_shop_54 rfl ?_
      refine xj_irem (pc2 := 56) dL_shop_55 rfl (by omega) (by omega) ?_
      refine xj_istore7 (pc2 := 58) dL_shop_56 rfl (by decide) rfl ?_
      refine xj_aload_n (pc2 := 59) dL_shop_58 rfl rfl rfl ?_
      refine xj_iload (pc2 := 61) dL_shop_59 rfl rfl ?_
      refine xj_iload (pc2 := 63) dL_shop_61 rfl rfl ?_
      refine xj_iast (pc2 := 64) dL_shop_63 rfl rfl (by omega) (by omega) ?_
      refine xj_aload_n (pc2 := 65) dL_shop_64 rfl rfl rfl ?_
      refine xj_iload (pc2 := 67) dL_shop_65 rfl rfl ?_
      refine xj_iconst (pc2 := 68) dL_shop_67 rfl ?_
      refine xj_iadd (pc2 := 69) dL_shop_68 rfl ?_
      refine xj_iload_n (pc2 := 70) dL_shop_69 rfl rfl rfl ?_
      refine xj_iconst (pc2 := 71) dL_shop_70 rfl ?_
      refine xj_iconst (pc2 := 72) dL_shop_71 rfl ?_
      refine xj_iload (pc2 := 74) dL_shop_72 rfl rfl ?_
      refine xj_imul (pc2 := 75) dL_shop_74 rfl ?_
      refine xj_iadd (pc2 := 76) dL_shop_75 rfl ?_
      refine xj_ishr (pc2 := 77) dL_shop_76 rfl ?_
      refine xj_bipush (pc2 := 79) dL_shop_77 rfl (by decide) ?_
      refine xj_iand (pc2 := 80) dL_shop_79 rfl ?_
      refine xj_bipush (pc2 := 82) dL_shop_80 rfl (by decide) ?_
      refine xj_irem (pc2 := 83) dL_shop_82 rfl (by omega) (by omega) ?_
      refine xj_iast (pc2 := 84) dL_shop_83 rfl rfl (by omega) (by omega) ?_
      refine xj_aload_n (pc2 := 85) dL_shop_84 rfl rfl rfl ?_
      refine xj_iload (pc2 := 87) dL_shop_85 rfl rfl ?_
      refine xj_iconst (pc2 := 88) dL_shop_87 rfl ?_
      refine xj_iadd (pc2 := 89) dL_shop_88 rfl ?_
      refine xj_iconst (pc2 := 90) dL_shop_89 rfl ?_
      refine xj_iast (pc2 := 91) dL_shop_90 rfl rfl (by omega) (by omega) ?_
      refine xj_aload_n (pc2 := 92) dL_shop_91 rfl rfl rfl ?_
      refine xj_iload (pc2 := 94) dL_shop_92 rfl rfl ?_
      refine xj_iconst (pc2 := 95) dL_shop_94 rfl ?_
      refine xj_iadd (pc2 := 96) dL_shop_95 rfl ?_
      refine xj_iconst (pc2 := 97) dL_shop_96 rfl ?_
      refine xj_iast (pc2 := 98) dL_shop_97 rfl rfl (by omega) (by omega) ?_
      refine xj_aload_n (pc2 := 99) dL_shop_98 rfl rfl rfl ?_
      refine xj_iload (pc2 := 101) dL_shop_99 rfl rfl ?_
      refine xj_iconst (pc2 := 102) dL_shop_101 rfl ?_
      refine xj_iadd (pc2 := 103) dL_shop_102 rfl ?_
      refine xj_iconst (pc2 := 104) dL_shop_103 rfl ?_
      refine xj_iast (pc2 := 105) dL_shop_104 rfl rfl (by omega) (by omega) ?_
      refine s105 _ (KC_w hK (fun c k hc => (by unfold hset; (repeat' split) <;> first | rfl | omega))) ⟨⟨?_, ?_, ?_⟩, fun g q0 q1 => ?_⟩
      · refine Eq.trans ?_ a1; unfold hset; (repeat' split) <;> first | rfl | omega
      · refine Eq.trans ?_ a2; unfold hset; (repeat' split) <;> first | rfl | omega
      · refine Eq.trans ?_ a3; unfold hset; (repeat' split) <;> first | rfl | omega
      · by_cases e : g = (j : Int)
        · subst e
          refine ⟨?_, ?_, ?_, ?_, ?_⟩ <;> (unfold hset; (repeat' split) <;> first | rfl | omega)
        · have hh := hG g q0 (by omega)
          refine ⟨Eq.trans ?_ hh.1, Eq.trans ?_ hh.2.1, Eq.trans ?_ hh.2.2.1, Eq.trans ?_ hh.2.2.2.1, Eq.trans ?_ hh.2.2.2.2⟩ <;> (unfold hset; (repeat' split) <;> first | rfl | omega)
  refine cj_of (lo := [some (.ref 0), some (vi x), some (vi y), some (.ref 145), none, none, none, none]) mok_L_shop (fun _ => rfl) (fun _ => Nat.le_of_ble_eq_true rfl) ?_
  refine xj_iconst (pc2 := 1) dL_shop_0 rfl ?_
  refine xj_istore4 (pc2 := 3) dL_shop_1 rfl (by decide) rfl ?_
  refine xj_aload_n (pc2 := 4) dL_shop_3 rfl rfl rfl ?_
  refine xj_iconst (pc2 := 5) dL_shop_4 rfl ?_
  refine xj_iconst (pc2 := 6) dL_shop_5 rfl ?_
  refine xj_iload_n (pc2 := 7) dL_shop_6 rfl rfl rfl ?_
  refine xj_iconst (pc2 := 8) dL_shop_7 rfl ?_
  refine xj_irem (pc2 := 9) dL_shop_8 rfl (by omega) (by omega) ?_
  refine xj_iadd (pc2 := 10) dL_shop_9 rfl ?_
  refine xj_iast (pc2 := 11) dL_shop_10 rfl rfl (by omega) (by omega) ?_
  refine xj_aload_n (pc2 := 12) dL_shop_11 rfl rfl rfl ?_
  refine xj_iconst (pc2 := 13) dL_shop_12 rfl ?_
  refine xj_iconst (pc2 := 14) dL_shop_13 rfl ?_
  refine xj_iload_n (pc2 := 15) dL_shop_14 rfl rfl rfl ?_
  refine xj_iconst (pc2 := 16) dL_shop_15 rfl ?_
  refine xj_irem (pc2 := 17) dL_shop_16 rfl (by omega) (by omega) ?_
  refine xj_iadd (pc2 := 18) dL_shop_17 rfl ?_
  refine xj_iast (pc2 := 19) dL_shop_18 rfl rfl (by omega) (by omega) ?_
  refine xj_aload_n (pc2 := 20) dL_shop_19 rfl rfl rfl ?_
  refine xj_iconst (pc2 := 21) dL_shop_20 rfl ?_
  refine xj_iconst (pc2 := 22) dL_shop_21 rfl ?_
  refine xj_iast (pc2 := 23) dL_shop_22 rfl rfl (by omega) (by omega) ?_
  refine xj_iconst (pc2 := 24) dL_shop_23 rfl ?_
  refine xj_istore5 (pc2 := 26) dL_shop_24 rfl (by decide) rfl ?_
  exact glov _ (KC_w hK (fun c k hc => (by unfold hset; (repeat' split) <;> first | rfl | omega))) ⟨⟨(by unfold hset; (repeat' split) <;> first | rfl | omega), (by unfold hset; (repeat' split) <;> first | rfl | omega), (by unfold hset; (repeat' split) <;> first | rfl | omega)⟩, fun g q0 q1 => by exfalso; omega⟩
