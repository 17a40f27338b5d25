/-! each call as one relation of the state ahead, the answer, the state behind -/
abbrev Tt : Type := Sh × Sh × Int × (Int → Int) × Int × Int × Int
def KCt (t : Tt) (h : Hp) : Prop := KC t.1 t.2.1 t.2.2.1 t.2.2.2.1 t.2.2.2.2.1 t.2.2.2.2.2.1 t.2.2.2.2.2.2 h
def KMt (t : Tt) (h : Hp) : Prop := KM t.1 t.2.1 t.2.2.1 t.2.2.2.1 t.2.2.2.2.1 t.2.2.2.2.2.1 t.2.2.2.2.2.2 h
def KWt (t : Tt) : Prop := KW t.1 t.2.1 t.2.2.2.2.1 t.2.2.2.2.2.1 t.2.2.2.2.2.2
theorem KMt_FrC {t : Tt} {h h2 : Hp} (hM : KMt t h) (f : FrC h h2) : KMt t h2 := KM_eq hM (fun c k q => f c k (by unfold LM at q; omega))
theorem KCt_FrM {t : Tt} {h h2 : Hp} (hK : KCt t h) (f : FrM h h2) : KCt t h2 := KC_eq hK (fun c k q => f c k (by unfold LC at q; omega) (by unfold LC at q; omega))
def OP_letter (c : Int) (t : Tt) (v : Int) (t2 : Tt) : Prop := v = letV t.2.2.1 c ∧ t2 = (t.1, t.2.1, letL t.2.2.1 c, letP t.2.2.1 c t.2.2.2.1, t.2.2.2.2.1, t.2.2.2.2.2.1, t.2.2.2.2.2.2)
theorem u6_letter {t : Tt} {c : Int} {h : Hp} {Q : Int → Hp → Prop} (hK : KCt t h) (hKW : KWt t) (hc : -2147483648 ≤ c ∧ c ≤ 2147483647) (hq : ∀ v t2 h2, OP_letter c t v t2 → KCt t2 h2 → FrC h h2 → Q v h2) : CJ 2 kX6_letter [.ref 0, vi c] h Q := by
  exact c_X6_letter hK hc (fun h2 k f => hq _ (t.1, t.2.1, letL t.2.2.1 c, letP t.2.2.1 c t.2.2.2.1, t.2.2.2.2.1, t.2.2.2.2.2.1, t.2.2.2.2.2.2) h2 ⟨rfl, rfl⟩ k f)
theorem u7_letter {t t2 : Tt} {v : Int} {c : Int} {h : Hp} {Q : Int → Hp → Prop} (hT : OP_letter c t v t2) (hK : KMt t h) (hKW : KWt t) (hc : -2147483648 ≤ c ∧ c ≤ 2147483647) (hq : ∀ h2, KMt t2 h2 → FrM h h2 → Q v h2) : CJ 1 kX7_letter [.ref 9, vi c] h Q := by
  have hW := hKW.1
  obtain ⟨rfl, rfl⟩ := hT
  exact c_X7_letter hK hc (fun h2 k f => hq h2 k f)
def OP_blank (t : Tt) (v : Int) (t2 : Tt) : Prop := v = t.2.2.1 ∧ t2 = (t.1, t.2.1, 0, t.2.2.2.1, t.2.2.2.2.1, t.2.2.2.2.2.1, t.2.2.2.2.2.2)
theorem u6_blank {t : Tt} {h : Hp} {Q : Int → Hp → Prop} (hK : KCt t h) (hKW : KWt t) (hq : ∀ v t2 h2, OP_blank t v t2 → KCt t2 h2 → FrC h h2 → Q v h2) : CJ 0 kX6_blank [.ref 0] h Q := by
  exact c_X6_blank hK (fun h2 k f => hq _ (t.1, t.2.1, 0, t.2.2.2.1, t.2.2.2.2.1, t.2.2.2.2.2.1, t.2.2.2.2.2.2) h2 ⟨rfl, rfl⟩ k f)
theorem u7_blank {t t2 : Tt} {v : Int} {h : Hp} {Q : Int → Hp → Prop} (hT : OP_blank t v t2) (hK : KMt t h) (hKW : KWt t) (hq : ∀ h2, KMt t2 h2 → FrM h h2 → Q v h2) : CJ 0 kX7_blank [.ref 9] h Q := by
  have hW := hKW.1
  obtain ⟨rfl, rfl⟩ := hT
  exact c_X7_blank hK (fun h2 k f => hq h2 k f)
def OP_fault (t : Tt) (v : Int) (t2 : Tt) : Prop := v = fltZ t.2.2.1 t.2.2.2.1 ∧ t2 = t
theorem u6_fault {t : Tt} {h : Hp} {Q : Int → Hp → Prop} (hK : KCt t h) (hKW : KWt t) (hq : ∀ v t2 h2, OP_fault t v t2 → KCt t2 h2 → FrC h h2 → Q v h2) : CJ 4 kX6_fault [.ref 0] h Q := by
  exact c_X6_fault hK (fun h2 k f => hq _ t h2 ⟨rfl, rfl⟩ k f)
theorem u7_fault {t t2 : Tt} {v : Int} {h : Hp} {Q : Int → Hp → Prop} (hT : OP_fault t v t2) (hK : KMt t h) (hKW : KWt t) (hq : ∀ h2, KMt t2 h2 → FrM h h2 → Q v h2) : CJ 4 kX7_fault [.ref 9] h Q := by
  have hW := hKW.1
  obtain ⟨rfl, rfl⟩ := hT
  exact c_X7_fault hK (fun h2 k f => hq h2 k f)
def OP_shop (t : Tt) (v : Int) (t2 : Tt) : Prop := (shopP t.2.2.1 t.2.2.2.1 ∧ v = nwG t.2.2.1 t.2.2.2.1 ∧ t2 = (newS t.2.2.2.1 (nwG t.2.2.1 t.2.2.2.1) (nwW t.2.2.1 t.2.2.2.1), t.2.1, 0, t.2.2.2.1, 0, t.2.2.2.2.2.1 + 1, t.2.2.2.2.2.2)) ∨ (¬ (shopP t.2.2.1 t.2.2.2.1) ∧ v = -103 ∧ t2 = t)
theorem u6_shop {t : Tt} {h : Hp} {Q : Int → Hp → Prop} (hK : KCt t h) (hKW : KWt t) (hq : ∀ v t2 h2, OP_shop t v t2 → KCt t2 h2 → FrC h h2 → Q v h2) : CJ 5 kX6_shop [.ref 0] h Q := by
  exact c_X6_shop hK (fun ok h2 k f => hq _ (newS t.2.2.2.1 (nwG t.2.2.1 t.2.2.2.1) (nwW t.2.2.1 t.2.2.2.1), t.2.1, 0, t.2.2.2.1, 0, t.2.2.2.2.2.1 + 1, t.2.2.2.2.2.2) h2 (Or.inl ⟨ok, rfl, rfl⟩) k f) (fun no h2 k f => hq _ t h2 (Or.inr ⟨no, rfl, rfl⟩) k f)
theorem u7_shop {t t2 : Tt} {v : Int} {h : Hp} {Q : Int → Hp → Prop} (hT : OP_shop t v t2) (hK : KMt t h) (hKW : KWt t) (hq : ∀ h2, KMt t2 h2 → FrM h h2 → Q v h2) : CJ 4 kX7_shop [.ref 9] h Q := by
  have hW := hKW.1
  rcases hT with ⟨ok, rfl, rfl⟩ | ⟨no, rfl, rfl⟩
  · exact c_X7_shop hK (fun _ h2 k f => hq h2 k f) (fun no _ _ _ => absurd ok no)
  · exact c_X7_shop hK (fun ok => absurd ok no) (fun _ h2 k f => hq h2 k f)
def OP_glove (a : Int) (b : Int) (t : Tt) (v : Int) (t2 : Tt) : Prop := v = gloveZ t.1 a b ∧ t2 = t
theorem u6_glove {t : Tt} {a : Int} {b : Int} {h : Hp} {Q : Int → Hp → Prop} (hK : KCt t h) (hKW : KWt t) (ha : -2147483648 ≤ a ∧ a ≤ 2147483647) (hb : -2147483648 ≤ b ∧ b ≤ 2147483647) (hq : ∀ v t2 h2, OP_glove a b t v t2 → KCt t2 h2 → FrC h h2 → Q v h2) : CJ 4 kX6_glove [.ref 0, vi a, vi b] h Q := by
  exact c_X6_glove hK hKW ha hb (fun h2 k f => hq _ t h2 ⟨rfl, rfl⟩ k f)
theorem u7_glove {t t2 : Tt} {v : Int} {a : Int} {b : Int} {h : Hp} {Q : Int → Hp → Prop} (hT : OP_glove a b t v t2) (hK : KMt t h) (hKW : KWt t) (ha : -2147483648 ≤ a ∧ a ≤ 2147483647) (hb : -2147483648 ≤ b ∧ b ≤ 2147483647) (hq : ∀ h2, KMt t2 h2 → FrM h h2 → Q v h2) : CJ 5 kX7_glove [.ref 9, vi a, vi b] h Q := by
  have hW := hKW.1
  obtain ⟨rfl, rfl⟩ := hT
  exact c_X7_glove hK.1 hW ha hb (hq h hK FrM_rf)
def OP_as (a : Int) (b : Int) (t : Tt) (v : Int) (t2 : Tt) : Prop := v = asZ t.1 a b ∧ t2 = t
theorem u6_as {t : Tt} {a : Int} {b : Int} {h : Hp} {Q : Int → Hp → Prop} (hK : KCt t h) (hKW : KWt t) (ha : -2147483648 ≤ a ∧ a ≤ 2147483647) (hb : -2147483648 ≤ b ∧ b ≤ 2147483647) (hq : ∀ v t2 h2, OP_as a b t v t2 → KCt t2 h2 → FrC h h2 → Q v h2) : CJ 1 kX6_as [.ref 0, vi a, vi b] h Q := by
  exact c_X6_as hK hKW ha hb (fun h2 k f => hq _ t h2 ⟨rfl, rfl⟩ k f)
theorem u7_as {t t2 : Tt} {v : Int} {a : Int} {b : Int} {h : Hp} {Q : Int → Hp → Prop} (hT : OP_as a b t v t2) (hK : KMt t h) (hKW : KWt t) (ha : -2147483648 ≤ a ∧ a ≤ 2147483647) (hb : -2147483648 ≤ b ∧ b ≤ 2147483647) (hq : ∀ h2, KMt t2 h2 → FrM h h2 → Q v h2) : CJ 2 kX7_as [.ref 9, vi a, vi b] h Q := by
  have hW := hKW.1
  obtain ⟨rfl, rfl⟩ := hT
  exact c_X7_as hK.1 hW ha hb (hq h hK FrM_rf)
def OP_wearer (a : Int) (b : Int) (t : Tt) (v : Int) (t2 : Tt) : Prop := v = wearerZ t.1 a b ∧ t2 = t
theorem u6_wearer {t : Tt} {a : Int} {b : Int} {h : Hp} {Q : Int → Hp → Prop} (hK : KCt t h) (hKW : KWt t) (ha : -2147483648 ≤ a ∧ a ≤ 2147483647) (hb : -2147483648 ≤ b ∧ b ≤ 2147483647) (hq : ∀ v t2 h2, OP_wearer a b t v t2 → KCt t2 h2 → FrC h h2 → Q v h2) : CJ 4 kX6_wearer [.ref 0, vi a, vi b] h Q := by
  exact c_X6_wearer hK hKW ha hb (fun h2 k f => hq _ t h2 ⟨rfl, rfl⟩ k f)
theorem u7_wearer {t t2 : Tt} {v : Int} {a : Int} {b : Int} {h : Hp} {Q : Int → Hp → Prop} (hT : OP_wearer a b t v t2) (hK : KMt t h) (hKW : KWt t) (ha : -2147483648 ≤ a ∧ a ≤ 2147483647) (hb : -2147483648 ≤ b ∧ b ≤ 2147483647) (hq : ∀ h2, KMt t2 h2 → FrM h h2 → Q v h2) : CJ 6 kX7_wearer [.ref 9, vi a, vi b] h Q := by
  have hW := hKW.1
  obtain ⟨rfl, rfl⟩ := hT
  exact c_X7_wearer hK.1 hW ha hb (hq h hK FrM_rf)
def OP_wear (a : Int) (b : Int) (c : Int) (t : Tt) (v : Int) (t2 : Tt) : Prop := (okW t.1 a b c ∧ v = moodN (hset t.1 3 a (2 * b + c)) b ∧ t2 = (hset t.1 3 a (2 * b + c), t.2.1, t.2.2.1, t.2.2.2.1, t.2.2.2.2.1, t.2.2.2.2.2.1, t.2.2.2.2.2.2)) ∨ (¬ (okW t.1 a b c) ∧ v = wearR t.1 a b c ∧ t2 = t)
theorem u6_wear {t : Tt} {a : Int} {b : Int} {c : Int} {h : Hp} {Q : Int → Hp → Prop} (hK : KCt t h) (hKW : KWt t) (ha : -2147483648 ≤ a ∧ a ≤ 2147483647) (hb : -2147483648 ≤ b ∧ b ≤ 2147483647) (hc : -2147483648 ≤ c ∧ c ≤ 2147483647) (hq : ∀ v t2 h2, OP_wear a b c t v t2 → KCt t2 h2 → FrC h h2 → Q v h2) : CJ 4 kX6_wear [.ref 0, vi a, vi b, vi c] h Q := by
  exact c_X6_wear hK hKW ha hb hc (fun ok h2 k f => hq _ (hset t.1 3 a (2 * b + c), t.2.1, t.2.2.1, t.2.2.2.1, t.2.2.2.2.1, t.2.2.2.2.2.1, t.2.2.2.2.2.2) h2 (Or.inl ⟨ok, rfl, rfl⟩) k f) (fun no h2 k f => hq _ t h2 (Or.inr ⟨no, rfl, rfl⟩) k f)
theorem u7_wear {t t2 : Tt} {v : Int} {a : Int} {b : Int} {c : Int} {h : Hp} {Q : Int → Hp → Prop} (hT : OP_wear a b c t v t2) (hK : KMt t h) (hKW : KWt t) (ha : -2147483648 ≤ a ∧ a ≤ 2147483647) (hb : -2147483648 ≤ b ∧ b ≤ 2147483647) (hc : -2147483648 ≤ c ∧ c ≤ 2147483647) (hq : ∀ h2, KMt t2 h2 → FrM h h2 → Q v h2) : CJ 5 kX7_wear [.ref 9, vi a, vi b, vi c] h Q := by
  have hW := hKW.1
  rcases hT with ⟨ok, rfl, rfl⟩ | ⟨no, rfl, rfl⟩
  · exact c_X7_wear hK hW ha hb hc (fun _ h2 k f => hq h2 k f) (fun no => absurd ok no)
  · exact c_X7_wear hK hW ha hb hc (fun ok => absurd ok no) (fun _ => hq h hK FrM_rf)
def OP_off (a : Int) (t : Tt) (v : Int) (t2 : Tt) : Prop := (okO t.1 a ∧ v = hold (t.1 3 a) ∧ t2 = (hset t.1 3 a (-1), t.2.1, t.2.2.1, t.2.2.2.1, t.2.2.2.2.1, t.2.2.2.2.2.1, t.2.2.2.2.2.2)) ∨ (¬ (okO t.1 a) ∧ v = offR t.1 a ∧ t2 = t)
theorem u6_off {t : Tt} {a : Int} {h : Hp} {Q : Int → Hp → Prop} (hK : KCt t h) (hKW : KWt t) (ha : -2147483648 ≤ a ∧ a ≤ 2147483647) (hq : ∀ v t2 h2, OP_off a t v t2 → KCt t2 h2 → FrC h h2 → Q v h2) : CJ 2 kX6_off [.ref 0, vi a] h Q := by
  exact c_X6_off hK hKW ha (fun ok h2 k f => hq _ (hset t.1 3 a (-1), t.2.1, t.2.2.1, t.2.2.2.1, t.2.2.2.2.1, t.2.2.2.2.2.1, t.2.2.2.2.2.2) h2 (Or.inl ⟨ok, rfl, rfl⟩) k f) (fun no h2 k f => hq _ t h2 (Or.inr ⟨no, rfl, rfl⟩) k f)
theorem u7_off {t t2 : Tt} {v : Int} {a : Int} {h : Hp} {Q : Int → Hp → Prop} (hT : OP_off a t v t2) (hK : KMt t h) (hKW : KWt t) (ha : -2147483648 ≤ a ∧ a ≤ 2147483647) (hq : ∀ h2, KMt t2 h2 → FrM h h2 → Q v h2) : CJ 2 kX7_off [.ref 9, vi a] h Q := by
  have hW := hKW.1
  rcases hT with ⟨ok, rfl, rfl⟩ | ⟨no, rfl, rfl⟩
  · exact c_X7_off hK hW ha (fun _ h2 k f => hq h2 k f) (fun no => absurd ok no)
  · exact c_X7_off hK hW ha (fun ok => absurd ok no) (fun _ => hq h hK FrM_rf)
def OP_hour (t : Tt) (v : Int) (t2 : Tt) : Prop := (okH t.1 ∧ v = t.1 6 2 + 1 ∧ t2 = (passS t.1, t.2.1, t.2.2.1, t.2.2.2.1, t.2.2.2.2.1, t.2.2.2.2.2.1, t.2.2.2.2.2.2)) ∨ (¬ (okH t.1) ∧ v = hourR t.1 ∧ t2 = t)
theorem u6_hour {t : Tt} {h : Hp} {Q : Int → Hp → Prop} (hK : KCt t h) (hKW : KWt t) (hq : ∀ v t2 h2, OP_hour t v t2 → KCt t2 h2 → FrC h h2 → Q v h2) : CJ 2 kX6_hour [.ref 0] h Q := by
  exact c_X6_hour hK hKW (fun ok h2 k f => hq _ (passS t.1, t.2.1, t.2.2.1, t.2.2.2.1, t.2.2.2.2.1, t.2.2.2.2.2.1, t.2.2.2.2.2.2) h2 (Or.inl ⟨ok, rfl, rfl⟩) k f) (fun no h2 k f => hq _ t h2 (Or.inr ⟨no, rfl, rfl⟩) k f)
theorem u7_hour {t t2 : Tt} {v : Int} {h : Hp} {Q : Int → Hp → Prop} (hT : OP_hour t v t2) (hK : KMt t h) (hKW : KWt t) (hq : ∀ h2, KMt t2 h2 → FrM h h2 → Q v h2) : CJ 2 kX7_hour [.ref 9] h Q := by
  have hW := hKW.1
  rcases hT with ⟨ok, rfl, rfl⟩ | ⟨no, rfl, rfl⟩
  · exact c_X7_hour hK hW hKW.2.1 (fun _ h2 k f => hq h2 k f) (fun no => absurd ok no)
  · exact c_X7_hour hK hW hKW.2.1 (fun ok => absurd ok no) (fun _ => hq h hK FrM_rf)
def OP_book (a : Int) (b : Int) (t : Tt) (v : Int) (t2 : Tt) : Prop := (okB t.1 a b ∧ v = t.1 1 a ∧ t2 = (hset t.1 1 a b, t.2.1, t.2.2.1, t.2.2.2.1, t.2.2.2.2.1, t.2.2.2.2.2.1, t.2.2.2.2.2.2)) ∨ (¬ (okB t.1 a b) ∧ v = bookR t.1 a ∧ t2 = t)
theorem u6_book {t : Tt} {a : Int} {b : Int} {h : Hp} {Q : Int → Hp → Prop} (hK : KCt t h) (hKW : KWt t) (ha : -2147483648 ≤ a ∧ a ≤ 2147483647) (hb : -2147483648 ≤ b ∧ b ≤ 2147483647) (hq : ∀ v t2 h2, OP_book a b t v t2 → KCt t2 h2 → FrC h h2 → Q v h2) : CJ 1 kX6_book [.ref 0, vi a, vi b] h Q := by
  exact c_X6_book hK hKW ha hb (fun ok h2 k f => hq _ (hset t.1 1 a b, t.2.1, t.2.2.1, t.2.2.2.1, t.2.2.2.2.1, t.2.2.2.2.2.1, t.2.2.2.2.2.2) h2 (Or.inl ⟨ok, rfl, rfl⟩) k f) (fun no h2 k f => hq _ t h2 (Or.inr ⟨no, rfl, rfl⟩) k f)
theorem u7_book {t t2 : Tt} {v : Int} {a : Int} {b : Int} {h : Hp} {Q : Int → Hp → Prop} (hT : OP_book a b t v t2) (hK : KMt t h) (hKW : KWt t) (ha : -2147483648 ≤ a ∧ a ≤ 2147483647) (hb : -2147483648 ≤ b ∧ b ≤ 2147483647) (hq : ∀ h2, KMt t2 h2 → FrM h h2 → Q v h2) : CJ 2 kX7_book [.ref 9, vi a, vi b] h Q := by
  have hW := hKW.1
  rcases hT with ⟨ok, rfl, rfl⟩ | ⟨no, rfl, rfl⟩
  · exact c_X7_book hK hW ha hb (fun _ h2 k f => hq h2 k f) (fun no => absurd ok no)
  · exact c_X7_book hK hW ha hb (fun ok => absurd ok no) (fun _ => hq h hK FrM_rf)
def OP_wish (a : Int) (b : Int) (c : Int) (t : Tt) (v : Int) (t2 : Tt) : Prop := (okY t.1 a b c ∧ v = t.1 5 a ∧ t2 = (hset (hset t.1 4 a b) 5 a c, t.2.1, t.2.2.1, t.2.2.2.1, t.2.2.2.2.1, t.2.2.2.2.2.1, t.2.2.2.2.2.2)) ∨ (¬ (okY t.1 a b c) ∧ v = wishR t.1 a ∧ t2 = t)
theorem u6_wish {t : Tt} {a : Int} {b : Int} {c : Int} {h : Hp} {Q : Int → Hp → Prop} (hK : KCt t h) (hKW : KWt t) (ha : -2147483648 ≤ a ∧ a ≤ 2147483647) (hb : -2147483648 ≤ b ∧ b ≤ 2147483647) (hc : -2147483648 ≤ c ∧ c ≤ 2147483647) (hq : ∀ v t2 h2, OP_wish a b c t v t2 → KCt t2 h2 → FrC h h2 → Q v h2) : CJ 1 kX6_wish [.ref 0, vi a, vi b, vi c] h Q := by
  exact c_X6_wish hK hKW ha hb hc (fun ok h2 k f => hq _ (hset (hset t.1 4 a b) 5 a c, t.2.1, t.2.2.1, t.2.2.2.1, t.2.2.2.2.1, t.2.2.2.2.2.1, t.2.2.2.2.2.2) h2 (Or.inl ⟨ok, rfl, rfl⟩) k f) (fun no h2 k f => hq _ t h2 (Or.inr ⟨no, rfl, rfl⟩) k f)
theorem u7_wish {t t2 : Tt} {v : Int} {a : Int} {b : Int} {c : Int} {h : Hp} {Q : Int → Hp → Prop} (hT : OP_wish a b c t v t2) (hK : KMt t h) (hKW : KWt t) (ha : -2147483648 ≤ a ∧ a ≤ 2147483647) (hb : -2147483648 ≤ b ∧ b ≤ 2147483647) (hc : -2147483648 ≤ c ∧ c ≤ 2147483647) (hq : ∀ h2, KMt t2 h2 → FrM h h2 → Q v h2) : CJ 2 kX7_wish [.ref 9, vi a, vi b, vi c] h Q := by
  have hW := hKW.1
  rcases hT with ⟨ok, rfl, rfl⟩ | ⟨no, rfl, rfl⟩
  · exact c_X7_wish hK hW ha hb hc (fun _ h2 k f => hq h2 k f) (fun no => absurd ok no)
  · exact c_X7_wish hK hW ha hb hc (fun ok => absurd ok no) (fun _ => hq h hK FrM_rf)
def OP_mood (a : Int) (b : Int) (t : Tt) (v : Int) (t2 : Tt) : Prop := v = moodV t.1 a b ∧ t2 = t
theorem u6_mood {t : Tt} {a : Int} {b : Int} {h : Hp} {Q : Int → Hp → Prop} (hK : KCt t h) (hKW : KWt t) (ha : -2147483648 ≤ a ∧ a ≤ 2147483647) (hb : -2147483648 ≤ b ∧ b ≤ 2147483647) (hq : ∀ v t2 h2, OP_mood a b t v t2 → KCt t2 h2 → FrC h h2 → Q v h2) : CJ 4 kX6_mood [.ref 0, vi a, vi b] h Q := by
  exact c_X6_mood hK hKW ha hb (fun h2 k f => hq _ t h2 ⟨rfl, rfl⟩ k f)
theorem u7_mood {t t2 : Tt} {v : Int} {a : Int} {b : Int} {h : Hp} {Q : Int → Hp → Prop} (hT : OP_mood a b t v t2) (hK : KMt t h) (hKW : KWt t) (ha : -2147483648 ≤ a ∧ a ≤ 2147483647) (hb : -2147483648 ≤ b ∧ b ≤ 2147483647) (hq : ∀ h2, KMt t2 h2 → FrM h h2 → Q v h2) : CJ 4 kX7_mood [.ref 9, vi a, vi b] h Q := by
  have hW := hKW.1
  obtain ⟨rfl, rfl⟩ := hT
  exact c_X7_mood hK.1 hW ha hb (hq h hK FrM_rf)
def OP_dress (a : Int) (t : Tt) (v : Int) (t2 : Tt) : Prop := (okD t.1 t.2.2.2.2.2.2 a ∧ v = dressA t.1 a ∧ t2 = (t.1, t.2.1, t.2.2.1, t.2.2.2.1, t.2.2.2.2.1, t.2.2.2.2.2.1, t.2.2.2.2.2.2 + 1)) ∨ (¬ (okD t.1 t.2.2.2.2.2.2 a) ∧ v = dressR a ∧ t2 = t)
theorem u6_dress {t : Tt} {a : Int} {h : Hp} {Q : Int → Hp → Prop} (hK : KCt t h) (hKW : KWt t) (ha : -2147483648 ≤ a ∧ a ≤ 2147483647) (hq : ∀ v t2 h2, OP_dress a t v t2 → KCt t2 h2 → FrC h h2 → Q v h2) : CJ (2 + 9) kX6_dress [.ref 0, vi a] h Q := by
  exact c_X6_dress hK hKW ha (fun ok h2 k f => hq _ (t.1, t.2.1, t.2.2.1, t.2.2.2.1, t.2.2.2.2.1, t.2.2.2.2.2.1, t.2.2.2.2.2.2 + 1) h2 (Or.inl ⟨ok, rfl, rfl⟩) k f) (fun no h2 k f => hq _ t h2 (Or.inr ⟨no, rfl, rfl⟩) k f)
theorem u7_dress {t t2 : Tt} {v : Int} {a : Int} {h : Hp} {Q : Int → Hp → Prop} (hT : OP_dress a t v t2) (hK : KMt t h) (hKW : KWt t) (ha : -2147483648 ≤ a ∧ a ≤ 2147483647) (hq : ∀ h2, KMt t2 h2 → FrM h h2 → Q v h2) : CJ 6 kX7_dress [.ref 9, vi a] h Q := by
  have hW := hKW.1
  rcases hT with ⟨ok, rfl, rfl⟩ | ⟨no, rfl, rfl⟩
  · exact c_X7_dress hK hW hKW.2.2.2.2.2 ha (fun _ h2 k f => hq h2 k f) (fun no => absurd ok no)
  · exact c_X7_dress hK hW hKW.2.2.2.2.2 ha (fun ok => absurd ok no) (fun _ => hq h hK FrM_rf)
def OP_boxes (a : Int) (t : Tt) (v : Int) (t2 : Tt) : Prop := v = boxesZ t.1 a ∧ t2 = t
theorem u6_boxes {t : Tt} {a : Int} {h : Hp} {Q : Int → Hp → Prop} (hK : KCt t h) (hKW : KWt t) (ha : -2147483648 ≤ a ∧ a ≤ 2147483647) (hq : ∀ v t2 h2, OP_boxes a t v t2 → KCt t2 h2 → FrC h h2 → Q v h2) : CJ (1 + 9) kX6_boxes [.ref 0, vi a] h Q := by
  exact c_X6_boxes hK hKW ha (fun h2 k f => hq _ t h2 ⟨rfl, rfl⟩ k f)
theorem u7_boxes {t t2 : Tt} {v : Int} {a : Int} {h : Hp} {Q : Int → Hp → Prop} (hT : OP_boxes a t v t2) (hK : KMt t h) (hKW : KWt t) (ha : -2147483648 ≤ a ∧ a ≤ 2147483647) (hq : ∀ h2, KMt t2 h2 → FrM h h2 → Q v h2) : CJ 5 kX7_boxes [.ref 9, vi a] h Q := by
  have hW := hKW.1
  obtain ⟨rfl, rfl⟩ := hT
  exact c_X7_boxes hK hW ha (fun h2 k f => hq h2 k f)
def OP_odds (a : Int) (b : Int) (c : Int) (d : Int) (t : Tt) (v : Int) (t2 : Tt) : Prop := v = oddsZ t.1 a b c d ∧ t2 = t
theorem u6_odds {t : Tt} {a : Int} {b : Int} {c : Int} {d : Int} {h : Hp} {Q : Int → Hp → Prop} (hK : KCt t h) (hKW : KWt t) (ha : -2147483648 ≤ a ∧ a ≤ 2147483647) (hb : -2147483648 ≤ b ∧ b ≤ 2147483647) (hc : -2147483648 ≤ c ∧ c ≤ 2147483647) (hd : -2147483648 ≤ d ∧ d ≤ 2147483647) (hq : ∀ v t2 h2, OP_odds a b c d t v t2 → KCt t2 h2 → FrC h h2 → Q v h2) : CJ 4 kX6_odds [.ref 0, vi a, vi b, vi c, vi d] h Q := by
  exact c_X6_odds hK hKW ha hb hc hd (fun h2 k f => hq _ t h2 ⟨rfl, rfl⟩ k f)
theorem u7_odds {t t2 : Tt} {v : Int} {a : Int} {b : Int} {c : Int} {d : Int} {h : Hp} {Q : Int → Hp → Prop} (hT : OP_odds a b c d t v t2) (hK : KMt t h) (hKW : KWt t) (ha : -2147483648 ≤ a ∧ a ≤ 2147483647) (hb : -2147483648 ≤ b ∧ b ≤ 2147483647) (hc : -2147483648 ≤ c ∧ c ≤ 2147483647) (hd : -2147483648 ≤ d ∧ d ≤ 2147483647) (hq : ∀ h2, KMt t2 h2 → FrM h h2 → Q v h2) : CJ 5 kX7_odds [.ref 9, vi a, vi b, vi c, vi d] h Q := by
  have hW := hKW.1
  obtain ⟨rfl, rfl⟩ := hT
  exact c_X7_odds hK.1 hW ha hb hc hd (hq h hK FrM_rf)
def OP_see (a : Int) (b : Int) (c : Int) (t : Tt) (v : Int) (t2 : Tt) : Prop := (okS t.1 a b c ∧ v = t.1 6 3 + 1 ∧ t2 = (seeS t.1 a b c, t.2.1, t.2.2.1, t.2.2.2.1, t.2.2.2.2.1, t.2.2.2.2.2.1, t.2.2.2.2.2.2)) ∨ (¬ (okS t.1 a b c) ∧ v = seeR t.1 a b c ∧ t2 = t)
theorem u6_see {t : Tt} {a : Int} {b : Int} {c : Int} {h : Hp} {Q : Int → Hp → Prop} (hK : KCt t h) (hKW : KWt t) (ha : -2147483648 ≤ a ∧ a ≤ 2147483647) (hb : -2147483648 ≤ b ∧ b ≤ 2147483647) (hc : -2147483648 ≤ c ∧ c ≤ 2147483647) (hq : ∀ v t2 h2, OP_see a b c t v t2 → KCt t2 h2 → FrC h h2 → Q v h2) : CJ 2 kX6_see [.ref 0, vi a, vi b, vi c] h Q := by
  exact c_X6_see hK hKW ha hb hc (fun ok h2 k f => hq _ (seeS t.1 a b c, t.2.1, t.2.2.1, t.2.2.2.1, t.2.2.2.2.1, t.2.2.2.2.2.1, t.2.2.2.2.2.2) h2 (Or.inl ⟨ok, rfl, rfl⟩) k f) (fun no h2 k f => hq _ t h2 (Or.inr ⟨no, rfl, rfl⟩) k f)
theorem u7_see {t t2 : Tt} {v : Int} {a : Int} {b : Int} {c : Int} {h : Hp} {Q : Int → Hp → Prop} (hT : OP_see a b c t v t2) (hK : KMt t h) (hKW : KWt t) (ha : -2147483648 ≤ a ∧ a ≤ 2147483647) (hb : -2147483648 ≤ b ∧ b ≤ 2147483647) (hc : -2147483648 ≤ c ∧ c ≤ 2147483647) (hq : ∀ h2, KMt t2 h2 → FrM h h2 → Q v h2) : CJ 2 kX7_see [.ref 9, vi a, vi b, vi c] h Q := by
  have hW := hKW.1
  rcases hT with ⟨ok, rfl, rfl⟩ | ⟨no, rfl, rfl⟩
  · exact c_X7_see hK hW ha hb hc (fun _ h2 k f => hq h2 k f) (fun no => absurd ok no)
  · exact c_X7_see hK hW ha hb hc (fun ok => absurd ok no) (fun _ => hq h hK FrM_rf)
def OP_forget (t : Tt) (v : Int) (t2 : Tt) : Prop := v = t.1 6 3 ∧ t2 = (hset t.1 6 3 0, t.2.1, t.2.2.1, t.2.2.2.1, t.2.2.2.2.1, t.2.2.2.2.2.1, t.2.2.2.2.2.2)
theorem u6_forget {t : Tt} {h : Hp} {Q : Int → Hp → Prop} (hK : KCt t h) (hKW : KWt t) (hq : ∀ v t2 h2, OP_forget t v t2 → KCt t2 h2 → FrC h h2 → Q v h2) : CJ 0 kX6_forget [.ref 0] h Q := by
  exact c_X6_forget hK (fun h2 k f => hq _ (hset t.1 6 3 0, t.2.1, t.2.2.1, t.2.2.2.1, t.2.2.2.2.1, t.2.2.2.2.2.1, t.2.2.2.2.2.2) h2 ⟨rfl, rfl⟩ k f)
theorem u7_forget {t t2 : Tt} {v : Int} {h : Hp} {Q : Int → Hp → Prop} (hT : OP_forget t v t2) (hK : KMt t h) (hKW : KWt t) (hq : ∀ h2, KMt t2 h2 → FrM h h2 → Q v h2) : CJ 0 kX7_forget [.ref 9] h Q := by
  have hW := hKW.1
  obtain ⟨rfl, rfl⟩ := hT
  exact c_X7_forget hK (fun h2 k f => hq h2 k f)
def OP_teas (a : Int) (b : Int) (c : Int) (t : Tt) (v : Int) (t2 : Tt) : Prop := v = teasZ t.1 a b c ∧ t2 = t
theorem u6_teas {t : Tt} {a : Int} {b : Int} {c : Int} {h : Hp} {Q : Int → Hp → Prop} (hK : KCt t h) (hKW : KWt t) (ha : -2147483648 ≤ a ∧ a ≤ 2147483647) (hb : -2147483648 ≤ b ∧ b ≤ 2147483647) (hc : -2147483648 ≤ c ∧ c ≤ 2147483647) (hq : ∀ v t2 h2, OP_teas a b c t v t2 → KCt t2 h2 → FrC h h2 → Q v h2) : CJ 5 kX6_teas [.ref 0, vi a, vi b, vi c] h Q := by
  exact c_X6_teas hK hKW ha hb hc (fun h2 k f => hq _ t h2 ⟨rfl, rfl⟩ k f)
theorem u7_teas {t t2 : Tt} {v : Int} {a : Int} {b : Int} {c : Int} {h : Hp} {Q : Int → Hp → Prop} (hT : OP_teas a b c t v t2) (hK : KMt t h) (hKW : KWt t) (ha : -2147483648 ≤ a ∧ a ≤ 2147483647) (hb : -2147483648 ≤ b ∧ b ≤ 2147483647) (hc : -2147483648 ≤ c ∧ c ≤ 2147483647) (hq : ∀ h2, KMt t2 h2 → FrM h h2 → Q v h2) : CJ 7 kX7_teas [.ref 9, vi a, vi b, vi c] h Q := by
  have hW := hKW.1
  obtain ⟨rfl, rfl⟩ := hT
  exact c_X7_teas hK hW ha hb hc (fun h2 k f => hq h2 k f)
def OP_image (t : Tt) (v : Int) (t2 : Tt) : Prop := (0 < t.1 6 0 ∧ v = t.1 6 2 ∧ t2 = (t.1, t.1, t.2.2.1, t.2.2.2.1, 1, t.2.2.2.2.2.1, t.2.2.2.2.2.2)) ∨ (¬ (0 < t.1 6 0) ∧ v = -103 ∧ t2 = t)
theorem u6_image {t : Tt} {h : Hp} {Q : Int → Hp → Prop} (hK : KCt t h) (hKW : KWt t) (hq : ∀ v t2 h2, OP_image t v t2 → KCt t2 h2 → FrC h h2 → Q v h2) : CJ 2 kX6_image [.ref 0] h Q := by
  exact c_X6_image hK hKW (fun ok h2 k f => hq _ (t.1, t.1, t.2.2.1, t.2.2.2.1, 1, t.2.2.2.2.2.1, t.2.2.2.2.2.2) h2 (Or.inl ⟨ok, rfl, rfl⟩) k f) (fun no h2 k f => hq _ t h2 (Or.inr ⟨no, rfl, rfl⟩) k f)
theorem u7_image {t t2 : Tt} {v : Int} {h : Hp} {Q : Int → Hp → Prop} (hT : OP_image t v t2) (hK : KMt t h) (hKW : KWt t) (hq : ∀ h2, KMt t2 h2 → FrM h h2 → Q v h2) : CJ 0 kX7_image [.ref 9] h Q := by
  have hW := hKW.1
  rcases hT with ⟨ok, rfl, rfl⟩ | ⟨no, rfl, rfl⟩
  · exact c_X7_image hK hW hKW.2.2.2.2.1.1 (fun _ h2 k f => hq h2 k f) (fun no => absurd ok no)
  · exact c_X7_image hK hW hKW.2.2.2.2.1.1 (fun ok => absurd ok no) (fun _ => hq h hK FrM_rf)
def OP_restore (t : Tt) (v : Int) (t2 : Tt) : Prop := (t.2.2.2.2.1 = 1 ∧ v = t.2.1 6 2 ∧ t2 = (t.2.1, t.2.1, t.2.2.1, t.2.2.2.1, t.2.2.2.2.1, t.2.2.2.2.2.1, t.2.2.2.2.2.2)) ∨ (¬ (t.2.2.2.2.1 = 1) ∧ v = -103 ∧ t2 = t)
theorem u6_restore {t : Tt} {h : Hp} {Q : Int → Hp → Prop} (hK : KCt t h) (hKW : KWt t) (hq : ∀ v t2 h2, OP_restore t v t2 → KCt t2 h2 → FrC h h2 → Q v h2) : CJ 2 kX6_restore [.ref 0] h Q := by
  exact c_X6_restore hK hKW (fun ok h2 k f => hq _ (t.2.1, t.2.1, t.2.2.1, t.2.2.2.1, t.2.2.2.2.1, t.2.2.2.2.2.1, t.2.2.2.2.2.2) h2 (Or.inl ⟨ok, rfl, rfl⟩) k f) (fun no h2 k f => hq _ t h2 (Or.inr ⟨no, rfl, rfl⟩) k f)
theorem u7_restore {t t2 : Tt} {v : Int} {h : Hp} {Q : Int → Hp → Prop} (hT : OP_restore t v t2) (hK : KMt t h) (hKW : KWt t) (hq : ∀ h2, KMt t2 h2 → FrM h h2 → Q v h2) : CJ 0 kX7_restore [.ref 9] h Q := by
  have hW := hKW.1
  rcases hT with ⟨ok, rfl, rfl⟩ | ⟨no, rfl, rfl⟩
  · exact c_X7_restore hK hW (fun q => (hKW.2.2.2.1 q).1) hKW.2.2.1 hKW.2.2.2.2.1 (fun _ h2 k f => hq h2 k f) (fun no => absurd ok no)
  · exact c_X7_restore hK hW (fun q => (hKW.2.2.2.1 q).1) hKW.2.2.1 hKW.2.2.2.2.1 (fun ok => absurd ok no) (fun _ => hq h hK FrM_rf)
def OP_count (a : Int) (t : Tt) (v : Int) (t2 : Tt) : Prop := v = countZ t.1 t.2.2.1 t.2.2.2.2.2.1 t.2.2.2.2.2.2 a ∧ t2 = t
theorem u6_count {t : Tt} {a : Int} {h : Hp} {Q : Int → Hp → Prop} (hK : KCt t h) (hKW : KWt t) (ha : -2147483648 ≤ a ∧ a ≤ 2147483647) (hq : ∀ v t2 h2, OP_count a t v t2 → KCt t2 h2 → FrC h h2 → Q v h2) : CJ 5 kX6_count [.ref 0, vi a] h Q := by
  exact c_X6_count hK hKW ha (fun h2 k f => hq _ t h2 ⟨rfl, rfl⟩ k f)
theorem u7_count {t t2 : Tt} {v : Int} {a : Int} {h : Hp} {Q : Int → Hp → Prop} (hT : OP_count a t v t2) (hK : KMt t h) (hKW : KWt t) (ha : -2147483648 ≤ a ∧ a ≤ 2147483647) (hq : ∀ h2, KMt t2 h2 → FrM h h2 → Q v h2) : CJ 7 kX7_count [.ref 9, vi a] h Q := by
  have hW := hKW.1
  obtain ⟨rfl, rfl⟩ := hT
  exact c_X7_count hK hW ha (hq h hK FrM_rf)
def OP_digest (t : Tt) (v : Int) (t2 : Tt) : Prop := v = dgZ t.1 t.2.2.1 t.2.2.2.1 t.2.2.2.2.2.1 t.2.2.2.2.2.2 ∧ t2 = t
theorem u6_digest {t : Tt} {h : Hp} {Q : Int → Hp → Prop} (hK : KCt t h) (hKW : KWt t) (hq : ∀ v t2 h2, OP_digest t v t2 → KCt t2 h2 → FrC h h2 → Q v h2) : CJ 10 kX6_digest [.ref 0] h Q := by
  exact c_X6_digest hK hKW (fun h2 k f => hq _ t h2 ⟨rfl, rfl⟩ k f)
theorem u7_digest {t t2 : Tt} {v : Int} {h : Hp} {Q : Int → Hp → Prop} (hT : OP_digest t v t2) (hK : KMt t h) (hKW : KWt t) (hq : ∀ h2, KMt t2 h2 → FrM h h2 → Q v h2) : CJ 7 kX7_digest [.ref 9] h Q := by
  have hW := hKW.1
  obtain ⟨rfl, rfl⟩ := hT
  exact c_X7_digest hK hKW (fun h2 k f => hq h2 k f)
