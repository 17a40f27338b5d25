/-! what each call keeps -/
theorem WF_mark {S : Sh} {g v : Int} (hW : WF S) (hv : 0 ≤ v ∧ v ≤ 9) : WF (hset S 1 g v) := by
  refine ⟨hW.1, hW.2.1, hW.2.2.1, fun k h0 h1 => ?_, hW.2.2.2.2.1, hW.2.2.2.2.2.1, hW.2.2.2.2.2.2⟩
  have := wf_g hW ⟨h0, h1⟩
  refine ⟨this.1, ?_, this.2.2⟩
  by_cases e : k = g
  · subst e; rw [hset_eq]; exact hv
  · rw [hset_nk e]; exact this.2.1
theorem WF_wish {S : Sh} {w n x : Int} (hW : WF S) (hn : 0 ≤ n ∧ n ≤ 9) (hx : 0 ≤ x ∧ x ≤ 2) : WF (hset (hset S 4 w n) 5 w x) := by
  refine ⟨hW.1, hW.2.1, hW.2.2.1, hW.2.2.2.1, fun k h0 h1 => ?_, hW.2.2.2.2.2.1, hW.2.2.2.2.2.2⟩
  have := wf_w hW ⟨h0, h1⟩
  by_cases e : k = w
  · subst e
    exact ⟨by rw [hset_nc (by decide), hset_eq]; exact hn, by rw [hset_eq]; exact hx⟩
  · exact ⟨by rw [hset_nc (by decide), hset_nk e]; exact this.1, by rw [hset_nk e, hset_nc (by decide)]; exact this.2⟩
theorem WF_forget {S : Sh} (hW : WF S) : WF (hset S 6 3 0) := ⟨hW.1, hW.2.1, ⟨by show (0 : Int) ≤ 0; decide, by show (0 : Int) ≤ 8; decide⟩, hW.2.2.2.1, hW.2.2.2.2.1, fun i h0 h1 => by have h1 : i < 0 := h1; exfalso; omega, hW.2.2.2.2.2.2⟩
theorem WF_see {S : Sh} {g m x : Int} (hW : WF S) (hg : 0 ≤ g ∧ g < S 6 0) (hm : 0 ≤ m ∧ m ≤ 9) (hx : 0 ≤ x ∧ x ≤ 9) (hs : S 6 3 < 8) : WF (seeS S g m x) := by
  have hnn := wf_n hW
  refine ⟨hW.1, hW.2.1, ⟨by show (0 : Int) ≤ S 6 3 + 1; omega, by show S 6 3 + 1 ≤ 8; omega⟩, hW.2.2.2.1, hW.2.2.2.2.1, fun i h0 h1 => ?_, hW.2.2.2.2.2.2⟩
  have h1 : i < S 6 3 + 1 := h1
  unfold seeS
  by_cases e : i = S 6 3
  · subst e
    refine ⟨?_, ?_, ?_⟩
    · simp [hset]; exact hg
    · simp [hset]; exact hm
    · simp [hset]; exact hx
  · have := wf_i hW (i := i) (by omega)
    refine ⟨?_, ?_, ?_⟩
    · simp [hset, e]; exact this.1
    · simp [hset, e]; exact this.2.1
    · simp [hset, e]; exact this.2.2
theorem WF_new {len : Int} {pg : Int → Int} (h0 : 0 ≤ len) (h : shopP len pg) : WF (newS pg (nwG len pg) (nwW len pg)) := by
  obtain ⟨s1, s2, s3, s4, s5⟩ := shopP_fact h0 h
  have e60 : newS pg (nwG len pg) (nwW len pg) 6 0 = nwG len pg := rfl
  have e61 : newS pg (nwG len pg) (nwW len pg) 6 1 = nwW len pg := rfl
  refine ⟨Or.inr ⟨s1.1, s1.2, s2.1, s2.2⟩, by show (0 : Int) ≤ 0; decide, ⟨by show (0 : Int) ≤ 0; decide, by show (0 : Int) ≤ 8; decide⟩, fun g q0 q1 => ?_, fun w q0 q1 => ?_, fun i q0 q1 => ?_, fun g g' q0 q1 q2 q3 q4 q5 => absurd rfl q5⟩
  · rw [e60] at q1
    have a1 := (s5 (3 * g).toNat (by omega)).2 (by omega)
    have a2 := (s5 (3 * g + 1).toNat (by omega)).2 (by omega)
    rw [show (((3 * g).toNat : Nat) : Int) = 3 * g by omega] at a1
    rw [show (((3 * g + 1).toNat : Nat) : Int) = 3 * g + 1 by omega] at a2
    have hk := kindz_rg (pg (3 * g))
    have b1 : ¬ kindz (pg (3 * g)) = -1 := by unfold ofGP at a1; omega
    have b2 : 48 ≤ pg (3 * g + 1) ∧ pg (3 * g + 1) ≤ 57 := by unfold ofGP at a2; omega
    refine ⟨?_, ?_, ?_, ?_⟩
    · show 0 ≤ kindz (pg (3 * g)) ∧ kindz (pg (3 * g)) ≤ 4
      omega
    · show 0 ≤ pg (3 * g + 1) - 48 ∧ pg (3 * g + 1) - 48 ≤ 9
      omega
    · show (0 : Int) ≤ 0 ∧ (0 : Int) ≤ 20
      decide
    · rw [e61]
      show (-1 : Int) ≤ -1 ∧ (-1 : Int) < 2 * nwW len pg
      omega
  · rw [e61] at q1
    have a1 := (s5 (3 * nwG len pg + w).toNat (by omega)).1 (by omega)
    rw [show (((3 * nwG len pg + w).toNat : Nat) : Int) = 3 * nwG len pg + w by omega] at a1
    unfold nervP at a1
    refine ⟨?_, ?_⟩
    · show 0 ≤ pg (3 * nwG len pg + w) - 48 ∧ pg (3 * nwG len pg + w) - 48 ≤ 9
      omega
    · show (0 : Int) ≤ 2 ∧ (2 : Int) ≤ 2
      decide
  · have q1 : i < 0 := q1
    exfalso; omega
def KN (n : Int) (t : Tt) : Prop := KWt t ∧ t.2.2.2.2.2.1 ≤ n
theorem kn_same {n : Int} {t : Tt} (k : KN n t) : KN (n + 1) t := ⟨k.1, by have := k.2; omega⟩
/-- a new row of the shop alone -/
theorem kn_S {n : Int} {t : Tt} {S' : Sh} {len' : Int} {pg' : Int → Int} (k : KN n t) (h1 : WF S') (h2 : S' 6 2 ≤ 999) : KN (n + 1) (S', t.2.1, len', pg', t.2.2.2.2.1, t.2.2.2.2.2.1, t.2.2.2.2.2.2) := by
  obtain ⟨⟨a1, a2, a3, a4, a5, a6⟩, b⟩ := k
  exact ⟨⟨h1, h2, a3, a4, a5, a6⟩, by show t.2.2.2.2.2.1 ≤ n + 1; omega⟩
theorem p_letter {t t2 : Tt} {v n c : Int} (k : KN n t) (hT : OP_letter c t v t2) : KN (n + 1) t2 := by
  obtain ⟨rfl, rfl⟩ := hT
  exact kn_S k k.1.1 k.1.2.1
theorem p_blank {t t2 : Tt} {v n : Int} (k : KN n t) (hT : OP_blank t v t2) : KN (n + 1) t2 := by
  obtain ⟨rfl, rfl⟩ := hT
  exact kn_S k k.1.1 k.1.2.1
theorem p_forget {t t2 : Tt} {v n : Int} (k : KN n t) (hT : OP_forget t v t2) : KN (n + 1) t2 := by
  obtain ⟨rfl, rfl⟩ := hT
  exact kn_S k (WF_forget k.1.1) k.1.2.1
theorem p_shop {t t2 : Tt} {v n : Int} (k : KN n t) (hn : n ≤ 600) (hl : 0 ≤ t.2.2.1) (hT : OP_shop t v t2) : KN (n + 1) t2 := by
  rcases hT with ⟨ok, rfl, rfl⟩ | ⟨no, rfl, rfl⟩
  · obtain ⟨⟨a1, a2, a3, a4, a5, a6⟩, b⟩ := k
    exact ⟨⟨WF_new hl ok, by show (0 : Int) ≤ 999; decide, Or.inl rfl, fun q => by have q : (0 : Int) = 1 := q; exact absurd q (by decide), ⟨by show 0 ≤ t.2.2.2.2.2.1 + 1; omega, by show t.2.2.2.2.2.1 + 1 ≤ 1000000; omega⟩, a6⟩, by show t.2.2.2.2.2.1 + 1 ≤ n + 1; omega⟩
  · exact kn_same k
theorem p_wear {t t2 : Tt} {v n a b c : Int} (k : KN n t) (hT : OP_wear a b c t v t2) : KN (n + 1) t2 := by
  rcases hT with ⟨ok, rfl, rfl⟩ | ⟨no, rfl, rfl⟩
  · exact kn_S k (wf_wear k.1.1 ok) k.1.2.1
  · exact kn_same k
theorem p_off {t t2 : Tt} {v n a : Int} (k : KN n t) (hT : OP_off a t v t2) : KN (n + 1) t2 := by
  rcases hT with ⟨ok, rfl, rfl⟩ | ⟨no, rfl, rfl⟩
  · exact kn_S k (WF_hand k.1.1 ok.1 (Or.inl rfl)) k.1.2.1
  · exact kn_same k
theorem p_hour {t t2 : Tt} {v n : Int} (k : KN n t) (hT : OP_hour t v t2) : KN (n + 1) t2 := by
  rcases hT with ⟨ok, rfl, rfl⟩ | ⟨no, rfl, rfl⟩
  · exact kn_S k (WF_pass k.1.1) (by rw [passS_h]; have := ok.2; omega)
  · exact kn_same k
theorem p_book {t t2 : Tt} {v n a b : Int} (k : KN n t) (hT : OP_book a b t v t2) : KN (n + 1) t2 := by
  rcases hT with ⟨ok, rfl, rfl⟩ | ⟨no, rfl, rfl⟩
  · exact kn_S k (WF_mark k.1.1 ok.2) k.1.2.1
  · exact kn_same k
theorem p_wish {t t2 : Tt} {v n a b c : Int} (k : KN n t) (hT : OP_wish a b c t v t2) : KN (n + 1) t2 := by
  rcases hT with ⟨ok, rfl, rfl⟩ | ⟨no, rfl, rfl⟩
  · exact kn_S k (WF_wish k.1.1 ok.2.1 ok.2.2) k.1.2.1
  · exact kn_same k
theorem p_see {t t2 : Tt} {v n a b c : Int} (k : KN n t) (hT : OP_see a b c t v t2) : KN (n + 1) t2 := by
  rcases hT with ⟨ok, rfl, rfl⟩ | ⟨no, rfl, rfl⟩
  · exact kn_S k (WF_see k.1.1 ok.1 ok.2.1 ok.2.2.1 ok.2.2.2) k.1.2.1
  · exact kn_same k
theorem p_dress {t t2 : Tt} {v n a : Int} (k : KN n t) (hT : OP_dress a t v t2) : KN (n + 1) t2 := by
  rcases hT with ⟨ok, rfl, rfl⟩ | ⟨no, rfl, rfl⟩
  · obtain ⟨⟨a1, a2, a3, a4, a5, a6⟩, b⟩ := k
    have := ok.2.2
    exact ⟨⟨a1, a2, a3, a4, a5, ⟨by show 0 ≤ t.2.2.2.2.2.2 + 1; omega, by show t.2.2.2.2.2.2 + 1 ≤ 20; omega⟩⟩, by show t.2.2.2.2.2.1 ≤ n + 1; omega⟩
  · exact kn_same k
theorem p_image {t t2 : Tt} {v n : Int} (k : KN n t) (hT : OP_image t v t2) : KN (n + 1) t2 := by
  rcases hT with ⟨ok, rfl, rfl⟩ | ⟨no, rfl, rfl⟩
  · obtain ⟨⟨a1, a2, a3, a4, a5, a6⟩, b⟩ := k
    exact ⟨⟨a1, a2, Or.inr rfl, fun _ => ⟨a1, a2⟩, a5, a6⟩, by show t.2.2.2.2.2.1 ≤ n + 1; omega⟩
  · exact kn_same k
theorem p_restore {t t2 : Tt} {v n : Int} (k : KN n t) (hT : OP_restore t v t2) : KN (n + 1) t2 := by
  rcases hT with ⟨ok, rfl, rfl⟩ | ⟨no, rfl, rfl⟩
  · exact kn_S k (k.1.2.2.2.1 ok).1 (k.1.2.2.2.1 ok).2
  · exact kn_same k
theorem p_fault {t t2 : Tt} {v n : Int} (k : KN n t) (hT : OP_fault  t v t2) : KN (n + 1) t2 := by
  obtain ⟨rfl, rfl⟩ := hT
  exact kn_same k
theorem p_glove {t t2 : Tt} {v n a b : Int} (k : KN n t) (hT : OP_glove a b t v t2) : KN (n + 1) t2 := by
  obtain ⟨rfl, rfl⟩ := hT
  exact kn_same k
theorem p_as {t t2 : Tt} {v n a b : Int} (k : KN n t) (hT : OP_as a b t v t2) : KN (n + 1) t2 := by
  obtain ⟨rfl, rfl⟩ := hT
  exact kn_same k
theorem p_wearer {t t2 : Tt} {v n a b : Int} (k : KN n t) (hT : OP_wearer a b t v t2) : KN (n + 1) t2 := by
  obtain ⟨rfl, rfl⟩ := hT
  exact kn_same k
theorem p_mood {t t2 : Tt} {v n a b : Int} (k : KN n t) (hT : OP_mood a b t v t2) : KN (n + 1) t2 := by
  obtain ⟨rfl, rfl⟩ := hT
  exact kn_same k
theorem p_boxes {t t2 : Tt} {v n a : Int} (k : KN n t) (hT : OP_boxes a t v t2) : KN (n + 1) t2 := by
  obtain ⟨rfl, rfl⟩ := hT
  exact kn_same k
theorem p_odds {t t2 : Tt} {v n a b c d : Int} (k : KN n t) (hT : OP_odds a b c d t v t2) : KN (n + 1) t2 := by
  obtain ⟨rfl, rfl⟩ := hT
  exact kn_same k
theorem p_teas {t t2 : Tt} {v n a b c : Int} (k : KN n t) (hT : OP_teas a b c t v t2) : KN (n + 1) t2 := by
  obtain ⟨rfl, rfl⟩ := hT
  exact kn_same k
theorem p_count {t t2 : Tt} {v n a : Int} (k : KN n t) (hT : OP_count a t v t2) : KN (n + 1) t2 := by
  obtain ⟨rfl, rfl⟩ := hT
  exact kn_same k
theorem p_digest {t t2 : Tt} {v n : Int} (k : KN n t) (hT : OP_digest  t v t2) : KN (n + 1) t2 := by
  obtain ⟨rfl, rfl⟩ := hT
  exact kn_same k
