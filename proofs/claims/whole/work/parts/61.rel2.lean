/-! ORDER -/
theorem tc_s2_s2 {ρ : tcS} {c : Nat} {f g : Nat → Nat} : tc_s2 (tc_s2 ρ c f) c g = tc_s2 ρ c g := by
  show (ρ.1, va_up (va_up ρ.2.1 c f) c g, ρ.2.2) = (ρ.1, va_up ρ.2.1 c g, ρ.2.2)
  rw [bx_uu]
theorem tc_s2_at {ρ : tcS} {c : Nat} {f : Nat → Nat} : (tc_s2 ρ c f).2.1 c = f := by
  show va_up ρ.2.1 c f c = f
  simp [va_up]
theorem tr_dn2 {c : Nat} {f : Nat → tcS → tcS} (hf : ∀ j ρ, f j ρ = tc_s2 ρ c (va_up (ρ.2.1 c) j (ρ.2.1 c (j - 1)))) : ∀ (n j : Nat) (ρ : tcS), n ≤ j → tc_dn f n j ρ = tc_s2 ρ c (fun i => if j < i + n ∧ i ≤ j then ρ.2.1 c (i - 1) else ρ.2.1 c i)
  | 0, j, ρ, _ => by
    have e : (fun i => if j < i + 0 ∧ i ≤ j then ρ.2.1 c (i - 1) else ρ.2.1 c i) = ρ.2.1 c := by
      funext i
      rw [if_neg (by omega)]
    rw [e]
    show ρ = (ρ.1, va_up ρ.2.1 c (ρ.2.1 c), ρ.2.2)
    have e2 : va_up ρ.2.1 c (ρ.2.1 c) = ρ.2.1 := by
      funext k
      unfold va_up
      split
      · rename_i q
        rw [q]
      · rfl
    rw [e2]
  | n + 1, j, ρ, hn => by
    show tc_dn f n (j - 1) (f j ρ) = _
    rw [tr_dn2 hf n (j - 1) (f j ρ) (by omega), hf j ρ, tc_s2_at, tc_s2_s2]
    have e : (fun i => if j - 1 < i + n ∧ i ≤ j - 1 then va_up (ρ.2.1 c) j (ρ.2.1 c (j - 1)) (i - 1) else va_up (ρ.2.1 c) j (ρ.2.1 c (j - 1)) i) = (fun i => if j < i + (n + 1) ∧ i ≤ j then ρ.2.1 c (i - 1) else ρ.2.1 c i) := by
      funext i
      by_cases q : i = j
      · subst q
        rw [if_neg (by omega), if_pos (by omega)]
        simp [va_up]
      · by_cases q2 : j < i + (n + 1) ∧ i ≤ j
        · rw [if_pos (by omega), if_pos q2]
          simp [va_up, show ¬ (i - 1 = j) by omega]
        · rw [if_neg (by omega), if_neg q2]
          simp [va_up, q]
    rw [e]
theorem tr_plc {σ : tcS} {t : Nat} : ∀ (n i : Nat), (∃ j, i ≤ j ∧ j ≤ i + n ∧ σ.2.1 1 j = t) → σ.2.1 1 (tc_place σ t n i) = t
  | 0, i, ⟨j, h1, h2, h3⟩ => by
    have : j = i := by omega
    subst this
    exact h3
  | n + 1, i, ⟨j, h1, h2, h3⟩ => by
    unfold tc_place
    by_cases e : σ.2.1 1 i = t
    · rw [if_pos e]
      exact e
    · rw [if_neg e]
      refine tr_plc n (i + 1) ⟨j, ?_, by omega, h3⟩
      rcases Nat.lt_or_ge i j with q | q
      · omega
      · have : j = i := by omega
        subst this
        exact absurd h3 e
/-- the order without one place: what comes behind moves up -/
def tr_G (a : Nat → Nat) (f m : Nat) : Nat → Nat := fun i => if i < m then (if i < f then a i else a (i + 1)) else a i
theorem tr_of {τ : tcS} {t f T : Nat} (hf : f < T) (hft : τ.2.1 1 f = t) (hinj : ∀ j, j < T → τ.2.1 1 j = t → j = f) : ∀ (n k m : Nat), k + n = T → (m = if k ≤ f then k else k - 1) → tm_of t n k m (tc_s2 τ 1 (tr_G (τ.2.1 1) f m)) = (T - 1, tc_s2 τ 1 (tr_G (τ.2.1 1) f (T - 1)))
  | 0, k, m, hk, hm => by
    have : m = T - 1 := by
      rw [if_neg (by omega)] at hm
      omega
    subst this
    rfl
  | n + 1, k, m, hk, hm => by
    unfold tm_of
    have hmk : m ≤ k := by
      rw [hm]
      split <;> omega
    have eg : (tc_s2 τ 1 (tr_G (τ.2.1 1) f m)).2.1 1 k = τ.2.1 1 k := by
      rw [tc_s2_at]
      unfold tr_G
      rw [if_neg (by omega)]
    rw [eg]
    by_cases e : τ.2.1 1 k = t
    · have hkf := hinj k (by omega) e
      rw [if_pos e]
      refine tr_of hf hft hinj n (k + 1) m (by omega) ?_
      subst hkf
      rw [if_pos (Nat.le_refl _)] at hm
      rw [if_neg (by omega)]
      omega
    · have hkf : k ≠ f := fun q => e (by rw [q]; exact hft)
      rw [if_neg e, tc_s2_s2, tc_s2_at]
      have e2 : va_up (tr_G (τ.2.1 1) f m) m (τ.2.1 1 k) = tr_G (τ.2.1 1) f (m + 1) := by
        funext i
        unfold va_up tr_G
        by_cases q : i = m
        · subst q
          rw [if_pos rfl, if_pos (by omega)]
          by_cases q2 : k ≤ f
          · rw [if_pos q2] at hm
            rw [if_pos (by omega), hm]
          · rw [if_neg q2] at hm
            rw [if_neg (by omega), show i + 1 = k by omega]
        · rw [if_neg q]
          by_cases q2 : i < m
          · rw [if_pos q2, if_pos (show i < m + 1 by omega)]
          · rw [if_neg q2, if_neg (show ¬ i < m + 1 by omega)]
      rw [e2]
      refine tr_of hf hft hinj n (k + 1) (m + 1) (by omega) ?_
      rw [hm]
      by_cases q2 : k ≤ f
      · rw [if_pos q2, if_pos (by omega)]
      · rw [if_neg q2, if_neg (by omega)]
        omega
/-- where a place's tool came from -/
def tr_pi (f p i : Nat) : Nat := if i = p then f else if f ≤ i ∧ i < p then i + 1 else if p < i ∧ i ≤ f then i - 1 else i
theorem tr_ordC {σ : tcS} {t p : Nat} (hf : σ.2.1 1 (tc_from σ t) = t) : tc_order σ t p = tc_s2 σ 1 (fun i => σ.2.1 1 (tr_pi (tc_from σ t) p i)) := by
  unfold tc_order
  generalize tc_from σ t = f at hf ⊢
  rw [tr_up2 (c := 1) (f := tc_o1) (fun _ _ => rfl), tr_dn2 (c := 1) (f := tc_o2) (fun _ _ => rfl) _ _ _ (by omega)]
  unfold tc_o3
  rw [tc_s2_at, tc_s2_s2, tc_s2_s2]
  have e : va_up (fun i => if f < i + (f - p) ∧ i ≤ f then (if f ≤ i - 1 ∧ i - 1 < f + (p - f) then σ.2.1 1 (i - 1 + 1) else σ.2.1 1 (i - 1)) else (if f ≤ i ∧ i < f + (p - f) then σ.2.1 1 (i + 1) else σ.2.1 1 i)) p t = (fun i => σ.2.1 1 (tr_pi f p i)) := by
    funext i
    unfold va_up tr_pi
    dsimp only
    by_cases q : i = p
    · rw [if_pos q, if_pos q, hf]
    · rw [if_neg q, if_neg q]
      repeat' split
      all_goals first | rfl | (exfalso; omega) | exact congrArg (σ.2.1 1) (by omega)
  rw [tc_s2_at]
  rw [e]
theorem tr_ordM {τ : tcS} {t p f T : Nat} (hT : τ.2.2.2 1 = T) (hf : f < T) (hp : p < T) (hft : τ.2.1 1 f = t) (hinj : ∀ j, j < T → τ.2.1 1 j = t → j = f) : (tm_of t T 0 0 τ).1 = T - 1 ∧ ∃ g : Nat → Nat, tm_ord τ t p = tc_s2 τ 1 g ∧ (∀ i, i < T → g i = τ.2.1 1 (tr_pi f p i)) ∧ (∀ i, T ≤ i → g i = τ.2.1 1 i) := by
  have h0 : tr_G (τ.2.1 1) f 0 = τ.2.1 1 := by
    funext i
    unfold tr_G
    rw [if_neg (by omega)]
  have hs : tc_s2 τ 1 (τ.2.1 1) = τ := by
    show (τ.1, va_up τ.2.1 1 (τ.2.1 1), τ.2.2) = τ
    have e2 : va_up τ.2.1 1 (τ.2.1 1) = τ.2.1 := by
      funext k
      unfold va_up
      split
      · rename_i q
        rw [q]
      · rfl
    rw [e2]
  have h1 := tr_of hf hft hinj T 0 0 (by omega) (by rw [if_pos (Nat.zero_le _)])
  rw [h0, hs] at h1
  refine ⟨by rw [h1], ?_⟩
  unfold tm_ord
  rw [hT, h1]
  show ∃ g, tm_o3 t p (tc_dn tm_o2 (T - 1 - p) (T - 1) (tc_s2 τ 1 (tr_G (τ.2.1 1) f (T - 1)))) = tc_s2 τ 1 g ∧ _
  rw [tr_dn2 (c := 1) (f := tm_o2) (fun _ _ => rfl) _ _ _ (by omega), tc_s2_at, tc_s2_s2]
  unfold tm_o3
  rw [tc_s2_at, tc_s2_s2]
  refine ⟨_, rfl, fun i hi => ?_, fun i hi => ?_⟩
  · unfold va_up tr_pi tr_G
    dsimp only
    by_cases q : i = p
    · rw [if_pos q, if_pos q, hft]
    · rw [if_neg q, if_neg q]
      repeat' split
      all_goals first | rfl | (exfalso; omega) | exact congrArg (τ.2.1 1) (by omega)
  · unfold va_up tr_G
    dsimp only
    repeat' split
    all_goals first | rfl | (exfalso; omega) | exact congrArg (τ.2.1 1) (by omega)
theorem tr_pi_on {f p j T : Nat} (hf : f < T) (hp : p < T) (hj : j < T) : ∃ i, i < T ∧ tr_pi f p i = j := by
  by_cases a1 : j = f
  · exact ⟨p, hp, by unfold tr_pi; rw [if_pos rfl]; exact a1.symm⟩
  · by_cases a2 : f < j ∧ j ≤ p
    · exact ⟨j - 1, by omega, by unfold tr_pi; rw [if_neg (by omega), if_pos (by omega)]; omega⟩
    · by_cases a3 : p ≤ j ∧ j < f
      · exact ⟨j + 1, by omega, by unfold tr_pi; rw [if_neg (by omega), if_neg (by omega), if_pos (by omega)]; omega⟩
      · exact ⟨j, hj, by unfold tr_pi; rw [if_neg (by omega), if_neg (by omega), if_neg (by omega)]⟩
theorem tr_order {σ τ : tcS} (h : tr_R σ τ) {t p : Nat} (ht : t < σ.2.2.2 1) (hp : p < σ.2.2.2 1) : (tm_of t (τ.2.2.2 1) 0 0 τ).1 < τ.2.2.2 1 ∧ tr_R (tc_order σ t p) (tm_ord τ t p) := by
  obtain ⟨h1, h2, h3, h4, h5, h6, h7, h8, h9, h10, h11, h12, h13, h14⟩ := h
  obtain ⟨iP, iT, iN, iA, iR, iK, iO, iQ, iF, iB⟩ := h1
  obtain ⟨jP, jT, jN, jA, jR, jK, jO, jQ, jF, jB, jW⟩ := h2
  have e1 := h3 1 (by omega)
  have hfl := tc_from_lt ht
  have hft : σ.2.1 1 (tc_from σ t) = t := by
    obtain ⟨i, hi, hit⟩ := h11 t ht
    exact tr_plc _ 0 ⟨i, Nat.zero_le _, by omega, hit⟩
  have hC := tr_ordC (p := p) hft
  generalize tc_from σ t = f at hfl hft hC
  obtain ⟨hm, g, hg, hg1, hg2⟩ := tr_ordM (τ := τ) (t := t) (p := p) (f := f) (T := σ.2.2.2 1) e1 hfl hp (by rw [(h5 f hfl).2.2.2.2]; exact hft) (fun j hj q => by
    rw [(h5 j hj).2.2.2.2] at q
    exact h10 j f hj hfl (q.trans hft.symm))
  rw [e1]
  refine ⟨by rw [hm]; omega, ?_⟩
  rw [hC, hg]
  have hpi : ∀ i, i < σ.2.2.2 1 → tr_pi f p i < σ.2.2.2 1 := by
    intro i hi
    unfold tr_pi
    repeat' split
    all_goals omega
  have hgT : ∀ i, i < σ.2.2.2 1 → g i = σ.2.1 1 (tr_pi f p i) := fun i hi => by rw [hg1 i hi, (h5 _ (hpi i hi)).2.2.2.2]
  refine ⟨⟨iP, iT, iN, iA, iR, iK, fun i hi => iO _ (hpi i hi), iQ, iF, iB⟩, ⟨jP, jT, jN, jA, jR, jK, ?_, jQ, jF, jB, jW⟩, h3, h4, fun i hi => ⟨(h5 i hi).1, (h5 i hi).2.1, (h5 i hi).2.2.1, (h5 i hi).2.2.2.1, hgT i hi⟩, h6, h7, ?_, h9, ?_, ?_, h12, h13, ?_⟩
  · show ∀ i, i < τ.2.2.2 1 → g i < τ.2.2.2 1
    rw [e1]
    intro i hi
    rw [hgT i hi]
    exact iO _ (hpi i hi)
  · intro t2 k2 ht2 hk2
    show bt (σ.1 4 t2) k2 = _
    rw [h8 t2 k2 ht2 hk2]
    refine (tm_wants_cg (τ := τ) ?_ ?_ ?_ t2 k2).symm <;> rfl
  · show ∀ i j, i < σ.2.2.2 1 → j < σ.2.2.2 1 → σ.2.1 1 (tr_pi f p i) = σ.2.1 1 (tr_pi f p j) → i = j
    intro i j hi hj e
    have e2 := h10 _ _ (hpi i hi) (hpi j hj) e
    unfold tr_pi at e2
    repeat' split at e2
    all_goals omega
  · show ∀ t, t < σ.2.2.2 1 → ∃ i, i < σ.2.2.2 1 ∧ σ.2.1 1 (tr_pi f p i) = t
    intro t2 ht2
    obtain ⟨j, hj, hjt⟩ := h11 t2 ht2
    obtain ⟨i, hi, hij⟩ := tr_pi_on (p := p) hfl hp hj
    exact ⟨i, hi, by rw [hij]; exact hjt⟩
  · show ∀ i, i < 24 → g i < 24
    intro i hi
    rcases Nat.lt_or_ge i (σ.2.2.2 1) with q | q
    · rw [hgT i q]
      have := iO _ (hpi i q)
      omega
    · rw [hg2 i q]
      exact h14 i hi
