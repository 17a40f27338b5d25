/-! rows in the order of their numbers: a counter with a limit at each place -/
abbrev Rw : Type := Nat → Nat
def ups (r : Rw) (g v : Nat) : Rw := fun i => if i = g then v else r i
def zr (n k : Nat) (r : Rw) : Rw := fun i => if n ≤ i + k ∧ i < n then 0 else r i
def Rk (n : Nat) (lim : Nat → Rw → Nat) : Nat → Rw → List Rw
  | 0, r => [r]
  | k + 1, r => Rk n lim k r ++ (List.range (lim (n - (k + 1)) r - r (n - (k + 1)))).flatMap (fun j => Rk n lim k (zr n k (ups r (n - (k + 1)) (r (n - (k + 1)) + 1 + j))))
def nx (n : Nat) (lim : Nat → Rw → Nat) : Nat → Rw → Option Rw
  | 0, _ => none
  | k + 1, r => match nx n lim k r with
    | some r' => some r'
    | none => if r (n - (k + 1)) < lim (n - (k + 1)) r then some (zr n k (ups r (n - (k + 1)) (r (n - (k + 1)) + 1))) else none
/-- the limit looks at the places ahead alone -/
def LimP (lim : Nat → Rw → Nat) : Prop := ∀ (g : Nat) (r s : Rw), (∀ i, i < g → r i = s i) → lim g r = lim g s
theorem nx_pre {n : Nat} {lim : Nat → Rw → Nat} : ∀ (k : Nat) (r r' : Rw), k ≤ n → nx n lim k r = some r' → ∀ i, (i + k < n ∨ n ≤ i) → r' i = r i
  | 0, r, r', _, h, i, hi => by simp [nx] at h
  | k + 1, r, r', hk, h, i, hi => by
    unfold nx at h
    cases h2 : nx n lim k r with
    | some q =>
      rw [h2] at h
      simp only [Option.some.injEq] at h
      subst h
      exact nx_pre k r q (by omega) h2 i (by omega)
    | none =>
      rw [h2] at h
      simp only at h
      split at h
      · simp only [Option.some.injEq] at h
        subst h
        unfold zr ups
        rw [if_neg (by omega), if_neg (by omega)]
      · cases h
theorem zr_eq {n k g v w : Nat} {r s : Rw} (hg : g + k < n) (e : ∀ i, (i + (k + 1) < n ∨ n ≤ i) → r i = s i) (hv : v = w) (h2 : g = n - (k + 1)) : zr n k (ups r g v) = zr n k (ups s g w) := by
  subst hv
  funext i
  unfold zr ups
  by_cases h1 : n ≤ i + k ∧ i < n
  · rw [if_pos h1, if_pos h1]
  · rw [if_neg h1, if_neg h1]
    by_cases h3 : i = g
    · rw [if_pos h3, if_pos h3]
    · rw [if_neg h3, if_neg h3]
      exact e i (by omega)
theorem Rk_nx {n : Nat} {lim : Nat → Rw → Nat} (hL : LimP lim) : ∀ (k : Nat) (r : Rw), k ≤ n → Rk n lim k r = r :: (match nx n lim k r with | none => [] | some r' => Rk n lim k r')
  | 0, r, _ => by simp [Rk, nx]
  | k + 1, r, hk => by
    have ih := Rk_nx (n := n) hL k r (by omega)
    have hg : n - (k + 1) + k < n := by omega
    cases h2 : nx n lim k r with
    | some q =>
      rw [h2] at ih
      have hp := nx_pre k r q (by omega) h2
      have e1 : q (n - (k + 1)) = r (n - (k + 1)) := hp _ (by omega)
      have e2 : lim (n - (k + 1)) q = lim (n - (k + 1)) r := hL _ _ _ (fun i hi => hp i (by omega))
      have hn : nx n lim (k + 1) r = some q := by unfold nx; rw [h2]
      rw [hn]
      show Rk n lim k r ++ _ = r :: (Rk n lim k q ++ _)
      rw [ih, e1, e2]
      simp only [List.cons_append]
      congr 2
      congr 1
      funext j
      rw [zr_eq hg (fun i hi => (hp i (by omega)).symm) rfl rfl]
    | none =>
      rw [h2] at ih
      simp only at ih
      by_cases h3 : r (n - (k + 1)) < lim (n - (k + 1)) r
      · have hn : nx n lim (k + 1) r = some (zr n k (ups r (n - (k + 1)) (r (n - (k + 1)) + 1))) := by unfold nx; rw [h2]; simp only; rw [if_pos h3]
        rw [hn]
        show Rk n lim k r ++ _ = r :: (Rk n lim k _ ++ _)
        rw [ih]
        obtain ⟨m, hm⟩ : ∃ m, lim (n - (k + 1)) r - r (n - (k + 1)) = m + 1 := ⟨lim (n - (k + 1)) r - r (n - (k + 1)) - 1, by omega⟩
        have e1 : zr n k (ups r (n - (k + 1)) (r (n - (k + 1)) + 1)) (n - (k + 1)) = r (n - (k + 1)) + 1 := by
          unfold zr ups
          rw [if_neg (by omega), if_pos rfl]
        have e2 : lim (n - (k + 1)) (zr n k (ups r (n - (k + 1)) (r (n - (k + 1)) + 1))) = lim (n - (k + 1)) r := hL _ _ _ (fun i hi => by
          unfold zr ups
          rw [if_neg (by omega), if_neg (by omega)])
        rw [e1, e2, hm, show lim (n - (k + 1)) r - (r (n - (k + 1)) + 1) = m by omega, List.range_succ_eq_map, List.flatMap_cons, List.flatMap_map]
        simp only [List.cons_append, List.nil_append]
        congr 3
        funext j
        congr 1
        refine zr_eq hg (fun i hi => ?_) (by omega) rfl
        unfold zr ups
        rw [if_neg (by omega), if_neg (by omega)]
      · have hn : nx n lim (k + 1) r = none := by unfold nx; rw [h2]; simp only; rw [if_neg h3]
        rw [hn]
        show Rk n lim k r ++ _ = [r]
        rw [ih, show lim (n - (k + 1)) r - r (n - (k + 1)) = 0 by omega]
        simp
/-- the same, place by place -/
def full {α : Type} (n : Nat) (lim : Nat → Rw → Nat) (leaf : Rw → α → α) : Nat → Rw → α → α
  | 0, r, a => leaf r a
  | k + 1, r, a => it (fun v a => full n lim leaf k (ups r (n - (k + 1)) v) a) a (lim (n - (k + 1)) r + 1)
theorem it_foldl {α β : Type} (f : α → β → α) (L : Nat → List β) (a : α) : ∀ m, it (fun v a => (L v).foldl f a) a m = ((List.range m).flatMap L).foldl f a
  | 0 => rfl
  | m + 1 => by
    show (L m).foldl f (it (fun v a => (L v).foldl f a) a m) = _
    rw [it_foldl f L a m, List.range_succ, List.flatMap_append, List.foldl_append]
    simp
theorem it_congr {α : Type} {f g : Nat → α → α} {a : α} : ∀ m, (∀ j x, j < m → f j x = g j x) → it f a m = it g a m
  | 0, _ => rfl
  | m + 1, h => by
    show f m (it f a m) = g m (it g a m)
    rw [it_congr m (fun j x hj => h j x (by omega)), h m _ (by omega)]
theorem zr_zr {n k g v : Nat} {r : Rw} (hg : g + k < n) (h2 : g = n - (k + 1)) : zr n k (ups (zr n (k + 1) r) g v) = zr n k (ups r g v) := by
  funext i
  unfold zr ups
  by_cases h1 : n ≤ i + k ∧ i < n
  · rw [if_pos h1, if_pos h1]
  · rw [if_neg h1, if_neg h1]
    by_cases h3 : i = g
    · rw [if_pos h3, if_pos h3]
    · rw [if_neg h3, if_neg h3]
      show (if n ≤ i + (k + 1) ∧ i < n then 0 else r i) = r i
      rw [if_neg (by omega)]
theorem full_Rk {α : Type} {n : Nat} {lim : Nat → Rw → Nat} {leaf : Rw → α → α} (hL : LimP lim) : ∀ (k : Nat) (r : Rw) (a : α), k ≤ n → full n lim leaf k r a = (Rk n lim k (zr n k r)).foldl (fun a r => leaf r a) a
  | 0, r, a, _ => by
    have : zr n 0 r = r := by
      funext i
      unfold zr
      rw [if_neg (by omega)]
    rw [this]
    rfl
  | k + 1, r, a, hk => by
    have hg : n - (k + 1) + k < n := by omega
    have e0 : zr n (k + 1) r (n - (k + 1)) = 0 := by
      unfold zr
      rw [if_pos (by omega)]
    have e1 : lim (n - (k + 1)) (zr n (k + 1) r) = lim (n - (k + 1)) r := hL _ _ _ (fun i hi => by
      unfold zr
      rw [if_neg (by omega)])
    have e2 : Rk n lim (k + 1) (zr n (k + 1) r) = (List.range (lim (n - (k + 1)) r + 1)).flatMap (fun v => Rk n lim k (zr n k (ups r (n - (k + 1)) v))) := by
      show Rk n lim k (zr n (k + 1) r) ++ _ = _
      rw [e0, e1, List.range_succ_eq_map, List.flatMap_cons, List.flatMap_map]
      have e3 : zr n k (ups r (n - (k + 1)) 0) = zr n (k + 1) r := by
        funext i
        unfold zr ups
        by_cases h1 : n ≤ i + k ∧ i < n
        · rw [if_pos h1, if_pos (by omega)]
        · rw [if_neg h1]
          by_cases h3 : i = n - (k + 1)
          · rw [if_pos h3, if_pos (by omega)]
          · rw [if_neg h3, if_neg (by omega)]
      rw [e3, Nat.sub_zero]
      congr 2
      funext j
      rw [zr_zr hg rfl, show 0 + 1 + j = j.succ by omega]
    show it _ a (lim (n - (k + 1)) r + 1) = _
    rw [e2, ← it_foldl]
    exact it_congr _ (fun j x hj => full_Rk hL k _ x (by omega))
theorem Rk_mem {n : Nat} {lim : Nat → Rw → Nat} (hL : LimP lim) : ∀ (k : Nat) (s : Rw), k ≤ n → (∀ i, n ≤ i + k → i < n → s i ≤ lim i s) → s ∈ Rk n lim k (zr n k s)
  | 0, s, _, _ => by
    have : zr n 0 s = s := by
      funext i
      unfold zr
      rw [if_neg (by omega)]
    rw [this]
    simp [Rk]
  | k + 1, s, hk, h => by
    have ih := Rk_mem (n := n) hL k s (by omega) (fun i h1 h2 => h i (by omega) h2)
    have hg : n - (k + 1) + k < n := by omega
    have e0 : zr n (k + 1) s (n - (k + 1)) = 0 := by
      unfold zr
      rw [if_pos (by omega)]
    have e1 : lim (n - (k + 1)) (zr n (k + 1) s) = lim (n - (k + 1)) s := hL _ _ _ (fun i hi => by
      unfold zr
      rw [if_neg (by omega)])
    have hs := h (n - (k + 1)) (by omega) (by omega)
    show s ∈ Rk n lim k (zr n (k + 1) s) ++ _
    rw [e0, e1]
    by_cases hz : s (n - (k + 1)) = 0
    · refine List.mem_append_left _ ?_
      have : zr n (k + 1) s = zr n k s := by
        funext i
        unfold zr
        by_cases h1 : n ≤ i + k ∧ i < n
        · rw [if_pos h1, if_pos (by omega)]
        · rw [if_neg h1]
          by_cases h3 : i = n - (k + 1)
          · rw [if_pos (by omega), h3, hz]
          · rw [if_neg (by omega)]
      rw [this]
      exact ih
    · refine List.mem_append_right _ (List.mem_flatMap.mpr ⟨s (n - (k + 1)) - 1, List.mem_range.mpr (by omega), ?_⟩)
      rw [zr_zr hg rfl]
      have : ups s (n - (k + 1)) (0 + 1 + (s (n - (k + 1)) - 1)) = s := by
        funext i
        unfold ups
        by_cases h3 : i = n - (k + 1)
        · rw [if_pos h3, h3]; omega
        · rw [if_neg h3]
      rw [this]
      exact ih
