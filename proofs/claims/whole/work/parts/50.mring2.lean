def tm_rg (t : Nat) : Nat → Nat → Bool → tcS → Bool × tcS
  | 0, _, b, τ => (b, τ)
  | n + 1, p, b, τ => if b = true then (b, τ) else
      (if tm_bl τ t p = true then tm_rg t n (p + 1) false τ else tm_rg t n (p + 1) ((tm_come (6 * t + p) τ).2.2.1 4 (6 * t + p)).isSome (tm_come (6 * t + p) τ))
def tm_isr (t : Nat) (τ : tcS) : Bool × tcS := tm_rg t (τ.2.2.2 0) 0 false τ
theorem tm_rg_sq (t : Nat) : ∀ (n p : Nat) (b : Bool) (τ : tcS), tm_sq τ (tm_rg t n p b τ).2
  | 0, _, _, _ => tm_sq.rf
  | n + 1, p, b, τ => by
    unfold tm_rg
    split
    · exact tm_sq.rf
    · split
      · exact tm_rg_sq t n (p + 1) false τ
      · exact (tm_come_sq (6 * t + p) τ).tr (tm_rg_sq t n (p + 1) _ _)
def tm_rF : Nat → Nat → Int32 → tcS → Int32 × tcS
  | 0, _, _, τ => (-1, τ)
  | n + 1, t, l, τ => if (tm_isr t τ).1 = true then (if l = 0 then (nI t, (tm_isr t τ).2) else tm_rF n (t + 1) (l + (-1)) (tm_isr t τ).2) else tm_rF n (t + 1) l (tm_isr t τ).2
set_option maxHeartbeats 4000000 in
set_option maxRecDepth 100000 in
theorem ml_isRing_4 {t : Nat} (ht : t < 24) {K : tcK} : ∀ (n : Nat) (p : Nat) (b : Bool) (ρ : tcS), tm_I ρ → p + n = ρ.2.2.2 0 → K.2.1 = some (.inl (tc_b2 (tm_rg t n p b ρ).1)) → K.2.2.1 = tm_h (tm_rg t n p b ρ).2 → tc_V (cMO_isRing, 4, yMO_isRing.cls, some .boolean, 4, yMO_isRing.name) K 0 0 (tm_h ρ) 4 [some (.inr (some 0)), some (.inl (nI t)), some (.inl (tc_b2 b)), some (.inl (nI p))] [] := by
  intro n
  induction n with
  | zero =>
    intro p b ρ hI hp hr hh
    obtain ⟨iP, iT, iN, iA, iR, iK, iO, iQ, iF, iB, iW⟩ := id hI
    refine tv_iload_n dMO_isRing_4 rfl rfl ?_
    refine tv_aload_n dMO_isRing_5 rfl rfl ?_
    refine gMO_72 rfl dMO_isRing_6 ?_
    refine tv_icmp_ge (tgt := 53) dMO_isRing_9 (by decide) (fun c9 => ?_) (fun c9 => absurd (nI_le (by omega) (by omega)) c9)
    refine tv_iload_n dMO_isRing_53 rfl rfl ?_
    exact tv_iret dMO_isRing_54 rfl (by cases b <;> rfl) hr hh
  | succ n ih =>
    intro p b ρ hI hp hr hh
    obtain ⟨iP, iT, iN, iA, iR, iK, iO, iQ, iF, iB, iW⟩ := id hI
    refine tv_iload_n dMO_isRing_4 rfl rfl ?_
    refine tv_aload_n dMO_isRing_5 rfl rfl ?_
    refine gMO_72 rfl dMO_isRing_6 ?_
    refine tv_icmp_ge (tgt := 53) dMO_isRing_9 (by decide) (fun c9 => absurd c9 (nI_ge (by omega) (by omega))) (fun c9 => ?_)
    refine tv_iload_n dMO_isRing_12 rfl rfl ?_
    refine tv_if_ne (tgt := 53) dMO_isRing_13 (by decide) (fun c13 => ?_) (fun c13 => ?_)
    · have e1 : tm_rg t (n + 1) p b ρ = (b, ρ) := by rw [tm_rg, if_pos (tc_b2_n.mp c13)]
      refine tv_iload_n dMO_isRing_53 rfl rfl ?_
      exact tv_iret dMO_isRing_54 rfl (by cases b <;> rfl) (by rw [hr, e1]) (by rw [hh, e1])
    · have d13 := tc_b2_0.mp c13
      refine tv_aload_n dMO_isRing_16 rfl rfl ?_
      refine gMO_50 rfl dMO_isRing_17 ?_
      refine tv_iload_n dMO_isRing_20 rfl rfl ?_
      refine tv_iload_n dMO_isRing_21 rfl rfl ?_
      refine tv_callS2r kMO_106 (by decide) (Nat.le_of_ble_eq_true rfl) ⟨rfl, rfl⟩ (mm_at (tm_h ρ) t p) ⟨Nat.zero_le _, Nat.zero_le _⟩ dMO_isRing_22 ?_
      refine ldM_14 dMO_isRing_25 (by omega) ?_
      refine tv_if_ne (tgt := 45) dMO_isRing_26 (by decide) (fun c26 => ?_) (fun c26 => ?_)
      · have e1 : tm_rg t (n + 1) p b ρ = tm_rg t n (p + 1) false ρ := by rw [tm_rg, if_neg (by rw [d13]; simp), if_pos (show tm_bl ρ t p = true from tc_b2_n.mp c26)]
        have h9 := ih (p + 1) false ρ hI (by omega) (by rw [hr, e1]) (by rw [hh, e1])
        refine tv_iconst (v := 0) dMO_isRing_45 (by decide) ?_
        refine tv_istN_2 dMO_isRing_46 (by decide) ?_
        refine tv_iinc_3 dMO_isRing_47 (by decide) (nI_1 p) ?_
        refine tv_goto (tgt := 4) dMO_isRing_50 (by decide) ?_
        exact h9
      · have d26 : ¬ tm_bl ρ t p = true := by rw [show tm_bl ρ t p = false from tc_b2_0.mp c26]; simp
        have hq := tm_come_sq (6 * t + p) ρ
        have e1 : tm_rg t (n + 1) p b ρ = tm_rg t n (p + 1) ((tm_come (6 * t + p) ρ).2.2.1 4 (6 * t + p)).isSome (tm_come (6 * t + p) ρ) := by rw [tm_rg, if_neg (by rw [d13]; simp), if_neg d26]
        have h9 := ih (p + 1) ((tm_come (6 * t + p) ρ).2.2.1 4 (6 * t + p)).isSome (tm_come (6 * t + p) ρ) (hq.I hI) (by rw [hq.2.2.2]; omega) (by rw [hr, e1]) (by rw [hh, e1])
        refine tv_aload_n dMO_isRing_29 rfl rfl ?_
        refine tv_iload_n dMO_isRing_30 rfl rfl ?_
        refine tv_iload_n dMO_isRing_31 rfl rfl ?_
        refine tv_callS2r kMO_106 (by decide) (Nat.le_of_ble_eq_true rfl) ⟨rfl, rfl⟩ (mm_at (tm_h ρ) t p) ⟨Nat.zero_le _, Nat.zero_le _⟩ dMO_isRing_32 ?_
        refine tv_callV1r kMO_147 (by decide) (Nat.le_of_ble_eq_true rfl) ⟨rfl, rfl⟩ rfl (mm_comesBack ρ hI (s := 6 * t + p) (by omega)) ⟨Nat.zero_le _, Nat.zero_le _⟩ dMO_isRing_35 ?_
        refine tv_if_eq (tgt := 45) dMO_isRing_38 (by decide) (fun c38 => ?_) (fun c38 => ?_)
        · rw [tc_b2_0.mp c38] at h9
          refine tv_iconst (v := 0) dMO_isRing_45 (by decide) ?_
          refine tv_istN_2 dMO_isRing_46 (by decide) ?_
          refine tv_iinc_3 dMO_isRing_47 (by decide) (nI_1 p) ?_
          refine tv_goto (tgt := 4) dMO_isRing_50 (by decide) ?_
          exact h9
        · rw [tc_b2_n.mp c38] at h9
          refine tv_iconst (v := 1) dMO_isRing_41 (by decide) ?_
          refine tv_goto (tgt := 46) dMO_isRing_42 (by decide) ?_
          refine tv_istN_2 dMO_isRing_46 (by decide) ?_
          refine tv_iinc_3 dMO_isRing_47 (by decide) (nI_1 p) ?_
          refine tv_goto (tgt := 4) dMO_isRing_50 (by decide) ?_
          exact h9
set_option maxHeartbeats 4000000 in
set_option maxRecDepth 100000 in
theorem mm_isRing (τ : tcS) (hI : tm_I τ) {t : Nat} (ht : t < 24) : tc_M yMO_isRing cMO_isRing 4 (some .boolean) 4 [.inr (some 0), .inl (nI t)] (tm_h τ, some (.inl (tc_b2 (tm_isr t τ).1)), tm_h (tm_isr t τ).2, 0, 0) := by
  refine tc_met (by decide) (Nat.le_of_ble_eq_true rfl) (Nat.le_of_eq tm_len) rfl ?_
  refine tv_iconst (v := 0) dMO_isRing_0 (by decide) ?_
  refine tv_istN_2 dMO_isRing_1 (by decide) ?_
  refine tv_iconst (v := 0) dMO_isRing_2 (by decide) ?_
  refine tv_istN_3 dMO_isRing_3 (by decide) ?_
  exact ml_isRing_4 ht (τ.2.2.2 0) 0 false τ hI (by omega) rfl rfl
set_option maxHeartbeats 4000000 in
set_option maxRecDepth 100000 in
theorem ml_ring_13 {x1 : Option tcV} (hx1 : x1 = none ∨ ∃ y, x1 = some (.inl y)) {K : tcK} : ∀ (n : Nat) (t : Nat) (l : Int32) (ρ : tcS), tm_I ρ → t + n = ρ.2.2.2 1 → K.2.1 = some (.inl (tm_rF n t l ρ).1) → K.2.2.1 = tm_h (tm_rF n t l ρ).2 → tc_V (cMO_ring, 4, yMO_ring.cls, some .int, 6, yMO_ring.name) K 0 0 (tm_h ρ) 13 [some (.inr (some 0)), x1, some (.inl l), some (.inl (nI t))] [] := by
  intro n
  induction n with
  | zero =>
    intro t l ρ hI ht hr hh
    obtain ⟨iP, iT, iN, iA, iR, iK, iO, iQ, iF, iB, iW⟩ := id hI
    refine tv_iload_n dMO_ring_13 rfl rfl ?_
    refine tv_aload_n dMO_ring_14 rfl rfl ?_
    refine gMO_75 rfl dMO_ring_15 ?_
    refine tv_icmp_ge (tgt := 47) dMO_ring_18 (by decide) (fun c18 => ?_) (fun c18 => absurd (nI_le (by omega) (by omega)) c18)
    refine tv_iconst (v := -1) dMO_ring_47 (by decide) ?_
    exact tv_iret dMO_ring_48 rfl rfl hr hh
  | succ n ih =>
    intro t l ρ hI ht hr hh
    obtain ⟨iP, iT, iN, iA, iR, iK, iO, iQ, iF, iB, iW⟩ := id hI
    have hq : tm_sq ρ (tm_isr t ρ).2 := tm_rg_sq t (ρ.2.2.2 0) 0 false ρ
    refine tv_iload_n dMO_ring_13 rfl rfl ?_
    refine tv_aload_n dMO_ring_14 rfl rfl ?_
    refine gMO_75 rfl dMO_ring_15 ?_
    refine tv_icmp_ge (tgt := 47) dMO_ring_18 (by decide) (fun c18 => absurd c18 (nI_ge (by omega) (by omega))) (fun c18 => ?_)
    refine tv_aload_n dMO_ring_21 rfl rfl ?_
    refine tv_iload_n dMO_ring_22 rfl rfl ?_
    refine tv_callV1r kMO_150 (by decide) (Nat.le_of_ble_eq_true rfl) ⟨by rcases hx1 with rfl | ⟨y, rfl⟩ <;> rfl, rfl⟩ rfl (mm_isRing ρ hI (by omega)) ⟨Nat.zero_le _, Nat.zero_le _⟩ dMO_ring_23 ?_
    refine tv_if_ne (tgt := 32) dMO_ring_26 (by decide) (fun c26 => ?_) (fun c26 => ?_)
    · have d26 := tc_b2_n.mp c26
      refine tv_iload_n dMO_ring_32 rfl rfl ?_
      refine tv_if_ne (tgt := 38) dMO_ring_33 (by decide) (fun c33 => ?_) (fun c33 => ?_)
      · have e1 : tm_rF (n + 1) t l ρ = tm_rF n (t + 1) (l + (-1)) (tm_isr t ρ).2 := by rw [tm_rF, if_pos d26, if_neg c33]
        have h9 := ih (t + 1) (l + (-1)) (tm_isr t ρ).2 (hq.I hI) (by rw [hq.2.2.2]; omega) (by rw [hr, e1]) (by rw [hh, e1])
        refine tv_iinc_2 dMO_ring_38 (by decide) (v := l + (-1)) rfl ?_
        refine tv_iinc_3 dMO_ring_41 (by decide) (nI_1 t) ?_
        refine tv_goto (tgt := 13) dMO_ring_44 (by decide) ?_
        exact h9
      · have e1 : tm_rF (n + 1) t l ρ = (nI t, (tm_isr t ρ).2) := by rw [tm_rF, if_pos d26, if_pos c33]
        refine tv_iload_n dMO_ring_36 rfl rfl ?_
        exact tv_iret dMO_ring_37 rfl rfl (by rw [hr, e1]) (by rw [hh, e1])
    · have e1 : tm_rF (n + 1) t l ρ = tm_rF n (t + 1) l (tm_isr t ρ).2 := by rw [tm_rF, if_neg (by rw [tc_b2_0.mp c26]; simp)]
      have h9 := ih (t + 1) l (tm_isr t ρ).2 (hq.I hI) (by rw [hq.2.2.2]; omega) (by rw [hr, e1]) (by rw [hh, e1])
      refine tv_goto (tgt := 41) dMO_ring_29 (by decide) ?_
      refine tv_iinc_3 dMO_ring_41 (by decide) (nI_1 t) ?_
      refine tv_goto (tgt := 13) dMO_ring_44 (by decide) ?_
      exact h9
set_option maxHeartbeats 4000000 in
set_option maxRecDepth 100000 in
theorem mp_ring (ρ : tcS) (hI : tm_I ρ) (i : Int32) {K : tcK} (hr : K.2.1 = some (.inl (tm_rF (ρ.2.2.2 1) 0 i (tm_build ρ)).1)) (hh : K.2.2.1 = tm_h (tm_rF (ρ.2.2.2 1) 0 i (tm_build ρ)).2) : tc_V (cMO_ring, 4, yMO_ring.cls, some .int, 6, yMO_ring.name) K 0 0 (tm_h ρ) 5 [some (.inr (some 0)), some (.inl i), none, none] [] := by
  refine tv_aload_n dMO_ring_5 rfl rfl ?_
  refine tv_callV0v kMO_121 (by decide) (Nat.le_of_ble_eq_true rfl) ⟨rfl, rfl⟩ rfl (mm_build ρ hI) ⟨Nat.zero_le _, Nat.zero_le _⟩ dMO_ring_6 ?_
  refine tv_iload_n dMO_ring_9 rfl rfl ?_
  refine tv_istN_2 dMO_ring_10 (by decide) ?_
  refine tv_iconst (v := 0) dMO_ring_11 (by decide) ?_
  refine tv_istN_3 dMO_ring_12 (by decide) ?_
  have hb := tm_build_sb hI
  exact ml_ring_13 (Or.inr ⟨_, rfl⟩) (ρ.2.2.2 1) 0 i (tm_build ρ) (hb.I hI) (by rw [hb.2.2.2]; omega) hr hh
set_option maxHeartbeats 4000000 in
set_option maxRecDepth 100000 in
theorem mm_ring (τ : tcS) (hI : tm_I τ) (i : Int32) : tc_M yMO_ring cMO_ring 4 (some .int) 6 [.inr (some 0), .inl i] (tm_h τ, some (.inl (tm_rF ((tc_s4 τ 5 0).2.2.2 1) 0 i (tm_build (tc_s4 τ 5 0))).1), tm_h (tm_rF ((tc_s4 τ 5 0).2.2.2 1) 0 i (tm_build (tc_s4 τ 5 0))).2, 0, 0) := by
  refine tc_met (by decide) (Nat.le_of_ble_eq_true rfl) (Nat.le_of_eq tm_len) rfl ?_
  refine tv_aload_n dMO_ring_0 rfl rfl ?_
  refine tv_iconst (v := 0) dMO_ring_1 (by decide) ?_
  refine tv_top (b := .inl (nI 0)) rfl ?_
  refine pMO_68 rfl dMO_ring_2 ?_
  exact mp_ring (tc_s4 τ 5 0) hI i rfl rfl
def tm_of (t : Nat) : Nat → Nat → Nat → tcS → Nat × tcS
  | 0, _, m, ρ => (m, ρ)
  | n + 1, k, m, ρ => if ρ.2.1 1 k = t then tm_of t n (k + 1) m ρ else tm_of t n (k + 1) (m + 1) (tc_s2 ρ 1 (va_up (ρ.2.1 1) m (ρ.2.1 1 k)))
def tm_o2 (j : Nat) (ρ : tcS) : tcS := tc_s2 ρ 1 (va_up (ρ.2.1 1) j (ρ.2.1 1 (j - 1)))
def tm_o3 (t p : Nat) (ρ : tcS) : tcS := tc_s2 ρ 1 (va_up (ρ.2.1 1) p t)
def tm_ord (τ : tcS) (t p : Nat) : tcS := tm_o3 t p (tc_dn tm_o2 ((tm_of t (τ.2.2.2 1) 0 0 τ).1 - p) (tm_of t (τ.2.2.2 1) 0 0 τ).1 (tm_of t (τ.2.2.2 1) 0 0 τ).2)
set_option maxHeartbeats 4000000 in
set_option maxRecDepth 100000 in
theorem ml_order_28 {t p : Nat} (ht : t < 24) {K : tcK} : ∀ (n : Nat) (k m : Nat) (ρ : tcS), k + n = ρ.2.2.2 1 → m ≤ k → ρ.2.2.2 1 ≤ 24 → (∀ i, i < 24 → ρ.2.1 1 i < 2 ^ 31) → tc_V (cMO_order, 5, yMO_order.cls, some .boolean, 1, yMO_order.name) K 0 0 (tm_h (tm_of t n k m ρ).2) 73 [some (.inr (some 0)), some (.inl (nI t)), some (.inl (nI p)), some (.inl (nI (tm_of t n k m ρ).1)), none] [] → tc_V (cMO_order, 5, yMO_order.cls, some .boolean, 1, yMO_order.name) K 0 0 (tm_h ρ) 28 [some (.inr (some 0)), some (.inl (nI t)), some (.inl (nI p)), some (.inl (nI m)), some (.inl (nI k))] [] := by
  intro n
  induction n with
  | zero =>
    intro k m ρ hk hm hT hO hx
    refine tv_iload dMO_order_28 rfl ?_
    refine tv_aload_n dMO_order_30 rfl rfl ?_
    refine gMO_75 rfl dMO_order_31 ?_
    refine tv_icmp_ge (tgt := 73) dMO_order_34 (by decide) (fun c34 => ?_) (fun c34 => absurd (nI_le (by omega) (by omega)) c34)
    refine tv_fg_4 ?_
    exact hx
  | succ n ih =>
    intro k m ρ hk hm hT hO hx
    refine tv_iload dMO_order_28 rfl ?_
    refine tv_aload_n dMO_order_30 rfl rfl ?_
    refine gMO_75 rfl dMO_order_31 ?_
    refine tv_icmp_ge (tgt := 73) dMO_order_34 (by decide) (fun c34 => absurd c34 (nI_ge (by omega) (by omega))) (fun c34 => ?_)
    refine tv_aload_n dMO_order_37 rfl rfl ?_
    refine gMO_25 rfl dMO_order_38 ?_
    refine tv_iload dMO_order_41 rfl ?_
    refine ldM_6 dMO_order_43 (by omega) ?_
    refine tv_iload_n dMO_order_44 rfl rfl ?_
    refine tv_icmp_ne (tgt := 51) dMO_order_45 (by decide) (fun c45 => ?_) (fun c45 => ?_)
    · have d45 : ¬ ρ.2.1 1 k = t := fun q => c45 (by rw [q])
      have e1 : tm_of t (n + 1) k m ρ = tm_of t n (k + 1) (m + 1) (tc_s2 ρ 1 (va_up (ρ.2.1 1) m (ρ.2.1 1 k))) := by rw [tm_of, if_neg d45]
      rw [e1] at hx
      have h9 := ih (k + 1) (m + 1) (tc_s2 ρ 1 (va_up (ρ.2.1 1) m (ρ.2.1 1 k))) (by show k + 1 + n = ρ.2.2.2 1; omega) (by omega) hT (fun i hi => by
        show va_up (ρ.2.1 1) m (ρ.2.1 1 k) i < _
        unfold va_up
        split
        · exact hO k (by omega)
        · exact hO i hi) hx
      refine tv_aload_n dMO_order_51 rfl rfl ?_
      refine gMO_25 rfl dMO_order_52 ?_
      refine tv_iload_n dMO_order_55 rfl rfl ?_
      refine tv_aload_n dMO_order_56 rfl rfl ?_
      refine gMO_25 rfl dMO_order_57 ?_
      refine tv_iload dMO_order_60 rfl ?_
      refine ldM_6 dMO_order_62 (by omega) ?_
      refine stM_6 dMO_order_63 (by omega) ?_
      refine tv_iinc_3 dMO_order_64 (by decide) (nI_1 m) ?_
      refine tv_iinc_4 dMO_order_67 (by decide) (nI_1 k) ?_
      refine tv_goto (tgt := 28) dMO_order_70 (by decide) ?_
      exact h9
    · have d45 : ρ.2.1 1 k = t := (nI_eq (hO k (by omega)) (by omega)).mp c45
      have e1 : tm_of t (n + 1) k m ρ = tm_of t n (k + 1) m ρ := by rw [tm_of, if_pos d45]
      rw [e1] at hx
      have h9 := ih (k + 1) m ρ (by omega) (by omega) hT hO hx
      refine tv_goto (tgt := 67) dMO_order_48 (by decide) ?_
      refine tv_iinc_4 dMO_order_67 (by decide) (nI_1 k) ?_
      refine tv_goto (tgt := 28) dMO_order_70 (by decide) ?_
      exact h9
set_option maxHeartbeats 4000000 in
set_option maxRecDepth 100000 in
theorem ml_order_76 {p : Nat} {x1 x3 : Option tcV} {K : tcK} : ∀ (n : Nat) (j : Nat) (ρ : tcS), p + n = j ∨ (n = 0 ∧ j ≤ p) → j < 24 → p < 24 → tc_V (cMO_order, 5, yMO_order.cls, some .boolean, 1, yMO_order.name) K 0 0 (tm_h (tc_dn tm_o2 n j ρ)) 104 [some (.inr (some 0)), x1, some (.inl (nI p)), x3, none] [] → tc_V (cMO_order, 5, yMO_order.cls, some .boolean, 1, yMO_order.name) K 0 0 (tm_h ρ) 76 [some (.inr (some 0)), x1, some (.inl (nI p)), x3, some (.inl (nI j))] [] := by
  intro n
  induction n with
  | zero =>
    intro j ρ hj hb hp hx
    refine tv_iload dMO_order_76 rfl ?_
    refine tv_iload_n dMO_order_78 rfl rfl ?_
    refine tv_icmp_le (tgt := 104) dMO_order_79 (by decide) (fun c79 => ?_) (fun c79 => absurd (nI_le (by omega) (by omega)) c79)
    refine tv_fg_4 ?_
    exact hx
  | succ n ih =>
    intro j ρ hj hb hp hx
    refine tv_iload dMO_order_76 rfl ?_
    refine tv_iload_n dMO_order_78 rfl rfl ?_
    refine tv_icmp_le (tgt := 104) dMO_order_79 (by decide) (fun c79 => absurd c79 (nI_ge (by omega) (by omega))) (fun c79 => ?_)
    refine tv_aload_n dMO_order_82 rfl rfl ?_
    refine gMO_25 rfl dMO_order_83 ?_
    refine tv_iload dMO_order_86 rfl ?_
    refine tv_aload_n dMO_order_88 rfl rfl ?_
    refine gMO_25 rfl dMO_order_89 ?_
    refine tv_iload dMO_order_92 rfl ?_
    refine tv_iconst (v := 1) dMO_order_94 (by decide) ?_
    refine tv_isub dMO_order_95 ?_
    refine tv_top (b := .inl (nI (j - 1))) (congrArg Sum.inl (pk_sub (b := 1) (by omega))) ?_
    refine ldM_6 dMO_order_96 (by omega) ?_
    refine stM_6 dMO_order_97 (by omega) ?_
    refine tv_iinc_4 dMO_order_98 (by decide) (v := nI (j - 1)) (sb_m1 (by omega)) ?_
    refine tv_goto (tgt := 76) dMO_order_101 (by decide) ?_
    exact ih (j - 1) (tm_o2 j ρ) (by omega) (by omega) hp hx
set_option maxHeartbeats 4000000 in
set_option maxRecDepth 100000 in
theorem mp_order (ρ : tcS) (hI : tm_I ρ) {t p : Nat} (ht : t < ρ.2.2.2 1) (hp : p < ρ.2.2.2 1) (hO : ∀ i, i < 24 → ρ.2.1 1 i < 2 ^ 31) (hm : (tm_of t (ρ.2.2.2 1) 0 0 ρ).1 < ρ.2.2.2 1) {K : tcK} (hr : K.2.1 = some (.inl 1)) (hh : K.2.2.1 = tm_h (tm_ord ρ t p)) : tc_V (cMO_order, 5, yMO_order.cls, some .boolean, 1, yMO_order.name) K 0 0 (tm_h ρ) 5 [some (.inr (some 0)), some (.inl (nI t)), some (.inl (nI p)), none, none] [] := by
  obtain ⟨iP, iT, iN, iA, iR, iK, iO, iQ, iF, iB, iW⟩ := id hI
  refine tv_aload_n dMO_order_5 rfl rfl ?_
  refine tv_iload_n dMO_order_6 rfl rfl ?_
  refine tv_callV1r kMO_82 (by decide) (Nat.le_of_ble_eq_true rfl) ⟨rfl, rfl⟩ rfl (mm_isTool ρ _) ⟨Nat.zero_le _, Nat.zero_le _⟩ dMO_order_7 ?_
  refine tv_if_eq (tgt := 21) dMO_order_10 (by decide) (fun c10 => absurd (tc_b2_0.mp c10) (by rw [tc_isN_nI ht (by omega)]; simp)) (fun c10 => ?_)
  refine tv_aload_n dMO_order_13 rfl rfl ?_
  refine tv_iload_n dMO_order_14 rfl rfl ?_
  refine tv_callV1r kMO_82 (by decide) (Nat.le_of_ble_eq_true rfl) ⟨rfl, rfl⟩ rfl (mm_isTool ρ _) ⟨Nat.zero_le _, Nat.zero_le _⟩ dMO_order_15 ?_
  refine tv_if_ne (tgt := 23) dMO_order_18 (by decide) (fun c18 => ?_) (fun c18 => absurd (tc_b2_0.mp c18) (by rw [tc_isN_nI hp (by omega)]; simp))
  refine tv_iconst (v := 0) dMO_order_23 (by decide) ?_
  refine tv_istN_3 dMO_order_24 (by decide) ?_
  refine tv_iconst (v := 0) dMO_order_25 (by decide) ?_
  refine tv_ist_4 dMO_order_26 (by decide) ?_
  refine ml_order_28 (by omega) (ρ.2.2.2 1) 0 0 ρ (by omega) (Nat.le_refl _) iT hO ?_
  refine tv_iload_n dMO_order_73 rfl rfl ?_
  refine tv_ist_4 dMO_order_74 (by decide) ?_
  refine ml_order_76 ((tm_of t (ρ.2.2.2 1) 0 0 ρ).1 - p) (tm_of t (ρ.2.2.2 1) 0 0 ρ).1 _ (by omega) (by omega) (by omega) ?_
  refine tv_aload_n dMO_order_104 rfl rfl ?_
  refine gMO_25 rfl dMO_order_105 ?_
  refine tv_iload_n dMO_order_108 rfl rfl ?_
  refine tv_iload_n dMO_order_109 rfl rfl ?_
  refine stM_6 dMO_order_110 (by omega) ?_
  refine tv_iconst (v := 1) dMO_order_111 (by decide) ?_
  exact tv_iret dMO_order_112 rfl rfl hr hh
set_option maxHeartbeats 4000000 in
set_option maxRecDepth 100000 in
theorem mm_order (τ : tcS) (hI : tm_I τ) {t p : Nat} (ht : t < (tc_s4 τ 5 0).2.2.2 1) (hp : p < (tc_s4 τ 5 0).2.2.2 1) (hO : ∀ i, i < 24 → (tc_s4 τ 5 0).2.1 1 i < 2 ^ 31) (hm : (tm_of t ((tc_s4 τ 5 0).2.2.2 1) 0 0 (tc_s4 τ 5 0)).1 < (tc_s4 τ 5 0).2.2.2 1) : tc_M yMO_order cMO_order 5 (some .boolean) 1 [.inr (some 0), .inl (nI t), .inl (nI p)] (tm_h τ, some (.inl 1), tm_h (tm_ord (tc_s4 τ 5 0) t p), 0, 0) := by
  refine tc_met (by decide) (Nat.le_of_ble_eq_true rfl) (Nat.le_of_eq tm_len) rfl ?_
  refine tv_aload_n dMO_order_0 rfl rfl ?_
  refine tv_iconst (v := 0) dMO_order_1 (by decide) ?_
  refine tv_top (b := .inl (nI 0)) rfl ?_
  refine pMO_68 rfl dMO_order_2 ?_
  exact mp_order (tc_s4 τ 5 0) hI ht hp hO hm rfl rfl
set_option maxHeartbeats 4000000 in
set_option maxRecDepth 100000 in
theorem mp_order_no (ρ : tcS) {x y : Int32} (hx : tc_isN x (ρ.2.2.2 1) = false ∨ tc_isN y (ρ.2.2.2 1) = false) {K : tcK} (hr : K.2.1 = some (.inl 0)) (hh : K.2.2.1 = tm_h ρ) : tc_V (cMO_order, 5, yMO_order.cls, some .boolean, 1, yMO_order.name) K 0 0 (tm_h ρ) 5 [some (.inr (some 0)), some (.inl x), some (.inl y), none, none] [] := by
  refine tv_aload_n dMO_order_5 rfl rfl ?_
  refine tv_iload_n dMO_order_6 rfl rfl ?_
  refine tv_callV1r kMO_82 (by decide) (Nat.le_of_ble_eq_true rfl) ⟨rfl, rfl⟩ rfl (mm_isTool ρ _) ⟨Nat.zero_le _, Nat.zero_le _⟩ dMO_order_7 ?_
  refine tv_if_eq (tgt := 21) dMO_order_10 (by decide) (fun c10 => ?_) (fun c10 => ?_)
  · refine tv_iconst (v := 0) dMO_order_21 (by decide) ?_
    exact tv_iret dMO_order_22 rfl rfl hr hh
  · have hy : tc_isN y (ρ.2.2.2 1) = false := by
      rcases hx with q | q
      · exact absurd (tc_b2_0.mpr q) c10
      · exact q
    refine tv_aload_n dMO_order_13 rfl rfl ?_
    refine tv_iload_n dMO_order_14 rfl rfl ?_
    refine tv_callV1r kMO_82 (by decide) (Nat.le_of_ble_eq_true rfl) ⟨rfl, rfl⟩ rfl (mm_isTool ρ _) ⟨Nat.zero_le _, Nat.zero_le _⟩ dMO_order_15 ?_
    refine tv_if_ne (tgt := 23) dMO_order_18 (by decide) (fun c18 => absurd (tc_b2_n.mp c18) (by rw [hy]; simp)) (fun c18 => ?_)
    refine tv_iconst (v := 0) dMO_order_21 (by decide) ?_
    exact tv_iret dMO_order_22 rfl rfl hr hh
set_option maxHeartbeats 4000000 in
set_option maxRecDepth 100000 in
theorem mm_order_no (τ : tcS) {x y : Int32} (hx : tc_isN x ((tc_s4 τ 5 0).2.2.2 1) = false ∨ tc_isN y ((tc_s4 τ 5 0).2.2.2 1) = false) : tc_M yMO_order cMO_order 5 (some .boolean) 1 [.inr (some 0), .inl x, .inl y] (tm_h τ, some (.inl 0), tm_h (tc_s4 τ 5 0), 0, 0) := by
  refine tc_met (by decide) (Nat.le_of_ble_eq_true rfl) (Nat.le_of_eq tm_len) rfl ?_
  refine tv_aload_n dMO_order_0 rfl rfl ?_
  refine tv_iconst (v := 0) dMO_order_1 (by decide) ?_
  refine tv_top (b := .inl (nI 0)) rfl ?_
  refine pMO_68 rfl dMO_order_2 ?_
  exact mp_order_no (tc_s4 τ 5 0) hx rfl rfl
