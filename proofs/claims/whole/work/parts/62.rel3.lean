/-! BUILT, by the reference -/
def tm_bw (τ : tcS) (t p : Nat) : Prop := bw_B (τ.2.2.2 1) (τ.2.2.2 0) (fun t p => tc_fit (τ.1 1 t) (τ.1 0 p)) (fun t p => tc_fit (τ.1 2 t) (τ.1 0 p)) (fun t k => tm_wants τ t k) (τ.2.1 0) t p
def tm_J (τ ρ : tcS) : Prop := tm_sb τ ρ ∧ ∀ t p, t < τ.2.2.2 1 → p < τ.2.2.2 0 → tm_bl ρ t p = true → tm_bw τ t p
/-- the walk's condition at a tool and a platform -/
def tm_cd (ρ : tcS) (t p : Nat) : Prop := tm_bl ρ t p = false ∧ tc_fit (ρ.1 1 t) (ρ.1 0 p) = true ∧ tm_miss ρ t p = none
theorem tm_miss_none {τ : tcS} {t p : Nat} : tm_miss τ t p = none ↔ ∀ k, k < 8 → tm_wants τ t k = true → tm_there τ k p = true := by
  unfold tm_miss
  rw [tc_ff_none]
  refine ⟨fun h k hk hw => ?_, fun h k _ hk => ?_⟩
  · have := h k (Nat.zero_le _) (by omega)
    rw [hw] at this
    cases e : tm_there τ k p
    · rw [e] at this
      cases this
    · rfl
  · cases e : tm_wants τ t k
    · rfl
    · rw [h k (by omega) e]
      rfl
theorem tm_bs_J {τ : tcS} (hP : τ.2.2.2 0 ≤ 6) {a : tcS × Bool} (hJ : tm_J τ a.1) {t p : Nat} (ht : t < τ.2.2.2 1) (hp : p < τ.2.2.2 0) : tm_J τ (tm_bs t p a).1 := by
  unfold tm_bs
  split
  · rename_i q
    obtain ⟨hs, hb⟩ := hJ
    refine ⟨hs.tr (tm_sb.put _ _), fun t2 p2 ht2 hp2 h => ?_⟩
    by_cases e : t2 = t ∧ p2 = p
    · rw [e.1, e.2]
      have hm := tm_miss_none.mp q.2.2
      refine bw_step ht hp (by rw [← hs.1]; exact q.2.1) (fun k hk hn => ?_)
      have hw : tm_wants a.1 t k = true := by
        rw [tm_wants_cg (τ := τ) (by rw [hs.2.1]) (by rw [hs.2.1]) (by rw [hs.2.2.2])]
        exact hn
      obtain ⟨v, q1, g1, g2, g3, g4, g5⟩ := tm_there_eq.mp (hm k hk hw)
      rw [hs.2.2.2] at g1 g2
      rw [hs.2.1] at g3
      rw [hs.1] at g4
      exact ⟨v, q1, g1, g2, g3, g4, hb v q1 g1 g2 g5⟩
    · refine hb t2 p2 ht2 hp2 ?_
      have h : (va_up (a.1.2.2.1 3) (6 * t + p) (some 0) (6 * t2 + p2)).isSome = true := h
      have ne : ¬ (6 * t2 + p2 = 6 * t + p) := by omega
      unfold va_up at h
      rw [if_neg ne] at h
      exact h
  · exact hJ
theorem tm_bt_J {τ : tcS} (hP : τ.2.2.2 0 ≤ 6) {t : Nat} (ht : t < τ.2.2.2 1) : ∀ (n p : Nat) (a : tcS × Bool), p + n ≤ τ.2.2.2 0 → tm_J τ a.1 → tm_J τ (tc_up (tm_bs t) n p a).1
  | 0, _, _, _, h => h
  | n + 1, p, a, hn, h => tm_bt_J hP ht n (p + 1) (tm_bs t p a) (by omega) (tm_bs_J hP h ht (by omega))
theorem tm_bp_J {τ : tcS} (hP : τ.2.2.2 0 ≤ 6) : ∀ (n t : Nat) (a : tcS × Bool), t + n ≤ τ.2.2.2 1 → tm_J τ a.1 → tm_J τ (tc_up tm_bt n t a).1
  | 0, _, _, _, h => h
  | n + 1, t, a, hn, h => tm_bp_J hP n (t + 1) (tm_bt t a) (by omega) (tm_bt_J hP (by omega) _ 0 a (by rw [h.1.2.2.2]; omega) h)
theorem tm_bd_J {τ : tcS} (hP : τ.2.2.2 0 ≤ 6) : ∀ (n : Nat) (a : tcS × Bool), tm_J τ a.1 → tm_J τ (tm_bd n a)
  | 0, _, h => h
  | n + 1, a, h => by
    unfold tm_bd
    split
    · exact tm_bd_J hP n (tm_bp a.1) (tm_bp_J hP _ 0 (a.1, false) (by rw [h.1.2.2.2]; omega) h)
    · exact h
theorem tm_bs_t (t p : Nat) (a : tcS × Bool) (h : a.2 = true) : (tm_bs t p a).2 = true := by
  unfold tm_bs
  split
  · rfl
  · exact h
theorem tm_up_t {f : Nat → tcS × Bool → tcS × Bool} (hf : ∀ j a, a.2 = true → (f j a).2 = true) : ∀ (n j : Nat) (a : tcS × Bool), a.2 = true → (tc_up f n j a).2 = true
  | 0, _, _, h => h
  | n + 1, j, a, h => tm_up_t hf n (j + 1) (f j a) (hf j a h)
/-- a walk that changes nothing says that nothing is left -/
theorem tm_bt_f {t : Nat} : ∀ (n p : Nat) (a : tcS × Bool), (tc_up (tm_bs t) n p a).2 = false → tc_up (tm_bs t) n p a = a ∧ ∀ j, p ≤ j → j < p + n → ¬ tm_cd a.1 t j
  | 0, _, _, _ => ⟨rfl, fun j h1 h2 => absurd h2 (by omega)⟩
  | n + 1, p, a, h => by
    have h0 : (tc_up (tm_bs t) n (p + 1) (tm_bs t p a)).2 = false := h
    by_cases q : tm_cd a.1 t p
    · have e : tm_bs t p a = (tm_set t p a.1, true) := by
        exact if_pos q
      rw [e, tm_up_t (tm_bs_t t) n (p + 1) _ rfl] at h0
      cases h0
    · have e : tm_bs t p a = a := by
        exact if_neg q
      rw [e] at h0
      obtain ⟨i1, i2⟩ := tm_bt_f n (p + 1) a h0
      refine ⟨by show tc_up (tm_bs t) n (p + 1) (tm_bs t p a) = a; rw [e]; exact i1, fun j h1 h2 => ?_⟩
      by_cases e2 : j = p
      · rw [e2]
        exact q
      · exact i2 j (by omega) (by omega)
theorem tm_bp_f : ∀ (n t : Nat) (a : tcS × Bool), (tc_up tm_bt n t a).2 = false → tc_up tm_bt n t a = a ∧ ∀ u p, t ≤ u → u < t + n → p < a.1.2.2.2 0 → ¬ tm_cd a.1 u p
  | 0, _, _, _ => ⟨rfl, fun u p h1 h2 => absurd h2 (by omega)⟩
  | n + 1, t, a, h => by
    have h0 : (tc_up tm_bt n (t + 1) (tm_bt t a)).2 = false := h
    have hb : (tm_bt t a).2 = false := by
      cases e : (tm_bt t a).2
      · rfl
      · rw [tm_up_t (f := tm_bt) (fun j a h => tm_up_t (tm_bs_t j) _ _ _ h) n (t + 1) _ e] at h0
        cases h0
    obtain ⟨i1, i2⟩ := tm_bt_f _ 0 a hb
    have e : tm_bt t a = a := i1
    rw [e] at h0
    obtain ⟨k1, k2⟩ := tm_bp_f n (t + 1) a h0
    refine ⟨by show tc_up tm_bt n (t + 1) (tm_bt t a) = a; rw [e]; exact k1, fun u p h1 h2 h3 => ?_⟩
    by_cases e2 : u = t
    · rw [e2]
      exact i2 p (Nat.zero_le _) (by omega)
    · exact k2 u p (by omega) (by omega) h3
def tm_fix (ρ : tcS) : Prop := ∀ t p, t < ρ.2.2.2 1 → p < ρ.2.2.2 0 → ¬ tm_cd ρ t p
theorem tm_bd_fix : ∀ (n : Nat) (a : tcS × Bool), a.1.2.2.2 0 ≤ 6 → a.1.2.2.2 1 ≤ 24 → (a.2 = true → cz (a.1.2.2.1 3) 144 < n) → (a.2 = false → tm_fix a.1) → tm_fix (tm_bd n a)
  | 0, a, _, _, hz, hf => by
    refine hf ?_
    cases e : a.2
    · rfl
    · exact absurd (hz e) (by omega)
  | n + 1, a, hP, hT, hz, hf => by
    unfold tm_bd
    split
    · rename_i q
      have hm := tm_bp_mv (a.1.2.2.2 1) 0 (a.1, false) hP (by omega)
      have hc : (tm_bp a.1).1.2.2.2 = a.1.2.2.2 := hm.1.2.2.2
      refine tm_bd_fix n (tm_bp a.1) (by rw [hc]; exact hP) (by rw [hc]; exact hT) (fun q2 => ?_) (fun q2 => ?_)
      · have h1 := hz q
        rcases hm.2.2 q2 with q3 | q3
        · cases q3
        · have q4 : cz ((tm_bp a.1).1.2.2.1 3) 144 < cz (a.1.2.2.1 3) 144 := q3
          omega
      · obtain ⟨k1, k2⟩ := tm_bp_f _ 0 (a.1, false) q2
        have e : tm_bp a.1 = (a.1, false) := k1
        rw [e]
        exact fun t p ht hp => k2 t p (Nat.zero_le _) (Nat.lt_of_lt_of_eq ht (Nat.zero_add _).symm) hp
    · rename_i q
      exact hf (by simpa using q)
theorem tm_clr_bl : ∀ (n j : Nat) (ρ : tcS) (i : Nat), ((j ≤ i ∧ i < j + n) ∨ ρ.2.2.1 3 i = none) → (tc_up tm_clr n j ρ).2.2.1 3 i = none
  | 0, _, _, i, h => by
    rcases h with h | h
    · omega
    · exact h
  | n + 1, j, ρ, i, h => by
    refine tm_clr_bl n (j + 1) (tm_clr j ρ) i ?_
    by_cases e : i = j
    · right
      show va_up (ρ.2.2.1 3) j none i = none
      simp [va_up, e]
    · rcases h with h | h
      · left
        omega
      · right
        show va_up (ρ.2.2.1 3) j none i = none
        simp [va_up, e, h]
theorem tm_build_eq {τ : tcS} (hI : tm_I τ) {t p : Nat} (ht : t < τ.2.2.2 1) (hp : p < τ.2.2.2 0) : tm_bl (tm_build τ) t p = true ↔ tm_bw τ t p := by
  obtain ⟨iP, iT, iN, iA, iR, iK, iO, iQ, iF, iB, iW⟩ := hI
  have hs := tm_clr_sb 144 0 τ
  have hJ0 : tm_J τ (tc_up tm_clr 144 0 τ) := ⟨hs, fun t p ht hp h => by
    unfold tm_bl at h
    rw [tm_clr_bl 144 0 τ (6 * t + p) (Or.inl (by omega))] at h
    cases h⟩
  have hJ : tm_J τ (tm_build τ) := tm_bd_J iP 145 (tc_up tm_clr 144 0 τ, true) hJ0
  have hF : tm_fix (tm_build τ) := tm_bd_fix 145 (tc_up tm_clr 144 0 τ, true) (by show (tc_up tm_clr 144 0 τ).2.2.2 0 ≤ 6; rw [hs.2.2.2]; exact iP) (by show (tc_up tm_clr 144 0 τ).2.2.2 1 ≤ 24; rw [hs.2.2.2]; exact iT) (fun _ => Nat.lt_of_le_of_lt (cz_le _ 144) (by decide)) (fun q => by cases q)
  obtain ⟨hb, hB⟩ := hJ
  refine ⟨hB t p ht hp, fun h => h.2.2 (fun t p => tm_bl (tm_build τ) t p = true) ?_⟩
  intro t p ht hp hR hk
  cases e : tm_bl (tm_build τ) t p
  · refine absurd ?_ (hF t p (by rw [hb.2.2.2]; exact ht) (by rw [hb.2.2.2]; exact hp))
    refine ⟨e, by rw [hb.1]; exact hR, tm_miss_none.mpr (fun k hk8 hw => ?_)⟩
    rw [tm_wants_cg (τ := τ) (by rw [hb.2.1]) (by rw [hb.2.1]) (by rw [hb.2.2.2])] at hw
    obtain ⟨u, q, g1, g2, g3, g4, g5⟩ := hk k hk8 hw
    refine tm_there_eq.mpr ⟨u, q, ?_, ?_, ?_, ?_, g5⟩
    · rw [hb.2.2.2]
      exact g1
    · rw [hb.2.2.2]
      exact g2
    · rw [hb.2.1]
      exact g3
    · rw [hb.1]
      exact g4
  · rfl
/-- BUILT depends on what there is alone -/
theorem bw_cg {T P : Nat} {R R' Mk Mk' nd nd' : Nat → Nat → Bool} {kd kd' : Nat → Nat} (hR : ∀ t p, t < T → p < P → R' t p = R t p) (hM : ∀ t p, t < T → p < P → Mk' t p = Mk t p) (hn : ∀ t k, t < T → k < 8 → nd' t k = nd t k) (hk : ∀ t, t < T → kd' t = kd t) {t p : Nat} (h : bw_B T P R Mk nd kd t p) : bw_B T P R' Mk' nd' kd' t p := by
  refine ⟨h.1, h.2.1, fun S hS => h.2.2 S (fun t p ht hp hr hh => hS t p ht hp (by rw [hR t p ht hp]; exact hr) (fun k hk8 hw => ?_))⟩
  obtain ⟨u, q, g1, g2, g3, g4, g5⟩ := hh k hk8 (by rw [← hn t k ht hk8]; exact hw)
  exact ⟨u, q, g1, g2, by rw [hk u g1]; exact g3, by rw [hM u p g1 hp]; exact g4, g5⟩
theorem tr_bw {σ τ : tcS} (h : tr_R σ τ) {t p : Nat} : tm_bw τ t p ↔ tc_bw σ t p := by
  obtain ⟨h1, h2, h3, h4, h5, h6, h7, h8, h9, h10, h11, h12, h13, h14⟩ := h
  have e0 := h3 0 (by omega)
  have e1 := h3 1 (by omega)
  have iT := h1.2.1
  have iK := h1.2.2.2.2.2.1
  unfold tm_bw tc_bw
  rw [e0, e1]
  constructor
  · refine bw_cg (fun t p ht hp => ?_) (fun t p ht hp => ?_) (fun t k ht hk => ?_) (fun t ht => ?_)
    · rw [(h5 t ht).1, h4 p hp]
    · rw [(h5 t ht).2.1, h4 p hp]
    · exact h8 t k (by omega) hk
    · exact ((h5 t ht).2.2.2.1).symm
  · refine bw_cg (fun t p ht hp => ?_) (fun t p ht hp => ?_) (fun t k ht hk => ?_) (fun t ht => ?_)
    · rw [(h5 t ht).1, h4 p hp]
    · rw [(h5 t ht).2.1, h4 p hp]
    · exact (h8 t k (by omega) hk).symm
    · exact (h5 t ht).2.2.2.1
theorem tr_settle {σ τ : tcS} (h : tr_R σ τ) : tr_R (tc_settle σ) (tm_build τ) := by
  have hb := tm_build_sb h.2.1
  have hk := tc_settle_k σ
  have hI := tc_I_of h.1 hk.1 hk.2
  have hI2 := hb.I h.2.1
  obtain ⟨h1, h2, h3, h4, h5, h6, h7, h8, h9, h10, h11, h12, h13, h14⟩ := h
  refine ⟨hI, hI2, ?_⟩
  rw [hk.1, hb.1, hb.2.1, hb.2.2.2, tc_settle_keep (k := 0) (by omega), tc_settle_keep (k := 1) (by omega), tc_settle_keep (k := 2) (by omega), tc_settle_keep (k := 3) (by omega), tc_settle_keep (k := 4) (by omega), tc_settle_keep (k := 10) (by omega), tc_settle_keep (k := 11) (by omega), tc_settle_keep (k := 12) (by omega), hb.2.2.1 0 (by omega), hb.2.2.1 1 (by omega), hb.2.2.1 2 (by omega)]
  refine ⟨h3, h4, h5, h6, h7, fun t k ht hk2 => ?_, h9, h10, h11, h12, h13, h14⟩
  rw [h8 t k ht hk2]
  exact (tm_wants_cg (τ := τ) (by rw [hb.2.1]) (by rw [hb.2.1]) (by rw [hb.2.2.2]) t k).symm
/-- the tables agree: fits, built, supplied -/
def tr_W (σ τ : tcS) : Prop := tr_R σ τ ∧ (∀ t p, t < σ.2.2.2 1 → p < σ.2.2.2 0 → bt (σ.1 5 t) p = tc_fit (σ.1 1 t) (σ.1 0 p) ∧ bt (σ.1 6 t) p = tc_fit (σ.1 2 t) (σ.1 0 p) ∧ bt (σ.1 7 t) p = tm_bl τ t p) ∧ (∀ k p, k < 8 → p < σ.2.2.2 0 → bt (σ.1 8 k) p = tm_there τ k p)
theorem tr_settle_W {σ τ : tcS} (h : tr_R σ τ) : tr_W (tc_settle σ) (tm_build τ) := by
  have hR := tr_settle h
  have hb := tm_build_sb h.2.1
  have hk := tc_settle_k σ
  have iP := h.1.1
  have iK := h.1.2.2.2.2.2.1
  obtain ⟨hJ, hF⟩ := tc_settle_J iP iK
  have e0 := h.2.2.1 0 (by omega)
  have e1 := h.2.2.1 1 (by omega)
  have hbl : ∀ t p, t < σ.2.2.2 1 → p < σ.2.2.2 0 → bt ((tc_settle σ).1 7 t) p = tm_bl (tm_build τ) t p := by
    intro t p ht hp
    refine Bool.eq_iff_iff.mpr ?_
    rw [tc_settle_built iP iK ht, tm_build_eq h.2.1 (by rw [e1]; exact ht) (by rw [e0]; exact hp), tr_bw h]
  refine ⟨hR, ?_, ?_⟩
  · rw [hk.1, tc_settle_keep (k := 0) (by omega), tc_settle_keep (k := 1) (by omega), tc_settle_keep (k := 2) (by omega)]
    intro t p ht hp
    refine ⟨Bool.eq_iff_iff.mpr ?_, Bool.eq_iff_iff.mpr ?_, hbl t p ht hp⟩
    · rw [hJ.2.2.1 t p ht]
      exact ⟨fun q => q.2, fun q => ⟨hp, q⟩⟩
    · rw [hJ.2.2.2.1 t p ht]
      exact ⟨fun q => q.2, fun q => ⟨hp, q⟩⟩
  · rw [hk.1]
    intro k p hk8 hp
    refine Bool.eq_iff_iff.mpr ?_
    rw [tc_settle_sup iP iK hk8 hp, tm_there_eq, hb.1, hb.2.1, hb.2.2.2, e0, e1]
    constructor
    · rintro ⟨u, q, g1, g2, g3, g4, g5⟩
      refine ⟨u, q, g1, g2, by rw [(h.2.2.2.2.1 u g1).2.2.2.1]; exact g3, by rw [(h.2.2.2.2.1 u g1).2.1, h.2.2.2.1 p hp]; exact g4, ?_⟩
      rw [← hbl u q g1 g2, tc_settle_built iP iK g1]
      exact g5
    · rintro ⟨u, q, g1, g2, g3, g4, g5⟩
      refine ⟨u, q, g1, g2, by rw [← (h.2.2.2.2.1 u g1).2.2.2.1]; exact g3, by rw [← (h.2.2.2.2.1 u g1).2.1, ← h.2.2.2.1 p hp]; exact g4, ?_⟩
      rw [← tc_settle_built iP iK g1, hbl u q g1 g2]
      exact g5
