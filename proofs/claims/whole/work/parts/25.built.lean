theorem tc_I_of {σ τ : tcS} (hI : tc_I σ) (h2 : τ.2 = σ.2) (hb : τ.1 11 = σ.1 11) : tc_I τ := by
  unfold tc_I
  rw [h2, hb]
  exact hI
theorem tc_mk_no {f : Nat → Bool} {n : Nat} (h : f n = false) : tc_mk f (n + 1) = tc_mk f n := by simp [tc_mk, h]
theorem tc_mk_yes {f : Nat → Bool} {n : Nat} (h : f n = true) : tc_mk f (n + 1) = tc_mk f n ||| ((1 : Int32) <<< (nI n &&& 31)) := by simp [tc_mk, h]
theorem tc_pws_no {r nk : Int32} {sup : Nat → Int32} {k : Nat} (h : bt nk k = false) : tc_pws r nk sup (k + 1) = tc_pws r nk sup k := by simp [tc_pws, h]
theorem tc_pws_yes {r nk : Int32} {sup : Nat → Int32} {k : Nat} (h : bt nk k = true) : tc_pws r nk sup (k + 1) = tc_pws r nk sup k &&& sup k := by simp [tc_pws, h]
set_option maxHeartbeats 4000000 in
set_option maxRecDepth 100000 in
theorem cc_unbuiltOn (σ : tcS) {t : Nat} (ht : t < 24) : tc_M yTC_unbuiltOn cTC_unbuiltOn 2 (some .int) 0 [.inr (some 0), .inl (nI t)] (tc_hC σ, some (.inl (tc_unb σ t)), tc_hC σ, 0, 0) := by
  refine tc_met (by decide) (Nat.le_of_ble_eq_true rfl) (Nat.le_of_eq tc_hC_len) rfl ?_
  refine tv_aload_n dTC_unbuiltOn_0 rfl rfl ?_
  refine gTC_61 rfl dTC_unbuiltOn_1 ?_
  refine tv_iload_n dTC_unbuiltOn_4 rfl rfl ?_
  refine ldC_16 dTC_unbuiltOn_5 ht ?_
  refine tv_aload_n dTC_unbuiltOn_6 rfl rfl ?_
  refine gTC_67 rfl dTC_unbuiltOn_7 ?_
  refine tv_iload_n dTC_unbuiltOn_10 rfl rfl ?_
  refine ldC_18 dTC_unbuiltOn_11 ht ?_
  refine tv_iconst (v := -1) dTC_unbuiltOn_12 (by decide) ?_
  refine tv_ixor dTC_unbuiltOn_13 ?_
  refine tv_iand dTC_unbuiltOn_14 ?_
  exact tv_iret dTC_unbuiltOn_15 rfl rfl rfl rfl
set_option maxHeartbeats 4000000 in
set_option maxRecDepth 100000 in
theorem cl_platformsHaving_4 (σ : tcS) (hI : tc_I σ) (w : Int32) {K : tcK} : ∀ (n : Nat) (p : Nat), p + n = σ.2.2.2 0 → K.2.1 = some (.inl (tc_phav σ w)) → K.2.2.1 = tc_hC σ → tc_V (cTC_platformsHaving, 4, yTC_platformsHaving.cls, some .int, 0, yTC_platformsHaving.name) K 0 0 (tc_hC σ) 4 [some (.inr (some 0)), some (.inl w), some (.inl (tc_mk (fun p => tc_fit w (σ.1 0 p)) p)), some (.inl (nI p))] [] := by
  intro n
  induction n with
  | zero =>
    intro p hp hr hh
    obtain ⟨iP, iT, iN, iA, iR, iK, iO, iQ, iF, iB⟩ := id hI
    refine tv_iload_n dTC_platformsHaving_4 rfl rfl ?_
    refine tv_aload_n dTC_platformsHaving_5 rfl rfl ?_
    refine gTC_13 rfl dTC_platformsHaving_6 ?_
    refine tv_icmp_ge (tgt := 37) dTC_platformsHaving_9 (by decide) (fun c9 => ?_) (fun c9 => absurd (nI_le (by omega) (by omega)) c9)
    refine tv_iload_n dTC_platformsHaving_37 rfl rfl ?_
    exact tv_iret dTC_platformsHaving_38 rfl rfl (by rw [hr, tc_phav, show σ.2.2.2 0 = p by omega]) hh
  | succ n ih =>
    intro p hp hr hh
    obtain ⟨iP, iT, iN, iA, iR, iK, iO, iQ, iF, iB⟩ := id hI
    refine tv_iload_n dTC_platformsHaving_4 rfl rfl ?_
    refine tv_aload_n dTC_platformsHaving_5 rfl rfl ?_
    refine gTC_13 rfl dTC_platformsHaving_6 ?_
    refine tv_icmp_ge (tgt := 37) dTC_platformsHaving_9 (by decide) (fun c9 => absurd c9 (nI_ge (by omega) (by omega))) (fun c9 => ?_)
    refine tv_iload_n dTC_platformsHaving_12 rfl rfl ?_
    refine tv_aload_n dTC_platformsHaving_13 rfl rfl ?_
    refine gTC_9 rfl dTC_platformsHaving_14 ?_
    refine tv_iload_n dTC_platformsHaving_17 rfl rfl ?_
    refine ldC_1 dTC_platformsHaving_18 (by omega) ?_
    refine tv_iconst (v := -1) dTC_platformsHaving_19 (by decide) ?_
    refine tv_ixor dTC_platformsHaving_20 ?_
    refine tv_iand dTC_platformsHaving_21 ?_
    refine tv_if_ne (tgt := 31) dTC_platformsHaving_22 (by decide) (fun c22 => ?_) (fun c22 => ?_)
    · have e22 := tc_mk_no (f := fun p => tc_fit w (σ.1 0 p)) (n := p) (decide_eq_false c22)
      have h9 := ih (p + 1) (by omega) hr hh
      refine tv_iinc_3 dTC_platformsHaving_31 (by decide) (nI_1 p) ?_
      refine tv_goto (tgt := 4) dTC_platformsHaving_34 (by decide) ?_
      rw [e22] at h9
      exact h9
    · have e22 := tc_mk_yes (f := fun p => tc_fit w (σ.1 0 p)) (n := p) (decide_eq_true c22)
      have h9 := ih (p + 1) (by omega) hr hh
      refine tv_iload_n dTC_platformsHaving_25 rfl rfl ?_
      refine tv_iconst (v := 1) dTC_platformsHaving_26 (by decide) ?_
      refine tv_iload_n dTC_platformsHaving_27 rfl rfl ?_
      refine tv_ishl dTC_platformsHaving_28 ?_
      refine tv_ior dTC_platformsHaving_29 ?_
      refine tv_istN_2 dTC_platformsHaving_30 (by decide) ?_
      refine tv_iinc_3 dTC_platformsHaving_31 (by decide) (nI_1 p) ?_
      refine tv_goto (tgt := 4) dTC_platformsHaving_34 (by decide) ?_
      rw [e22] at h9
      exact h9
set_option maxHeartbeats 4000000 in
set_option maxRecDepth 100000 in
theorem cc_platformsHaving (σ : tcS) (hI : tc_I σ) (w : Int32) : tc_M yTC_platformsHaving cTC_platformsHaving 4 (some .int) 0 [.inr (some 0), .inl w] (tc_hC σ, some (.inl (tc_phav σ w)), tc_hC σ, 0, 0) := by
  refine tc_met (by decide) (Nat.le_of_ble_eq_true rfl) (Nat.le_of_eq tc_hC_len) rfl ?_
  refine tv_iconst (v := 0) dTC_platformsHaving_0 (by decide) ?_
  refine tv_istN_2 dTC_platformsHaving_1 (by decide) ?_
  refine tv_iconst (v := 0) dTC_platformsHaving_2 (by decide) ?_
  refine tv_istN_3 dTC_platformsHaving_3 (by decide) ?_
  exact cl_platformsHaving_4 σ hI w (σ.2.2.2 0) 0 (by omega) rfl rfl
set_option maxHeartbeats 4000000 in
set_option maxRecDepth 100000 in
theorem cl_platformsWithSupplies_9 (σ : tcS) {t : Nat} (ht : t < 24) {K : tcK} : ∀ (n : Nat) (k : Nat), k + n = 8 → K.2.1 = some (.inl (tc_pws (σ.1 5 t) (σ.1 4 t) (σ.1 8) 8)) → K.2.2.1 = tc_hC σ → tc_V (cTC_platformsWithSupplies, 4, yTC_platformsWithSupplies.cls, some .int, 1, yTC_platformsWithSupplies.name) K 0 0 (tc_hC σ) 9 [some (.inr (some 0)), some (.inl (nI t)), some (.inl (tc_pws (σ.1 5 t) (σ.1 4 t) (σ.1 8) k)), some (.inl (nI k))] [] := by
  intro n
  induction n with
  | zero =>
    intro k hk hr hh
    refine tv_iload_n dTC_platformsWithSupplies_9 rfl rfl ?_
    refine tv_bipush (v := 8) dTC_platformsWithSupplies_10 (by decide) ?_
    refine tv_icmp_ge (tgt := 43) dTC_platformsWithSupplies_12 (by decide) (fun c12 => ?_) (fun c12 => absurd (nI_le (a := 8) (b := k) (by omega) (by omega)) c12)
    refine tv_iload_n dTC_platformsWithSupplies_43 rfl rfl ?_
    exact tv_iret dTC_platformsWithSupplies_44 rfl rfl (by rw [hr, show 8 = k by omega]) hh
  | succ n ih =>
    intro k hk hr hh
    refine tv_iload_n dTC_platformsWithSupplies_9 rfl rfl ?_
    refine tv_bipush (v := 8) dTC_platformsWithSupplies_10 (by decide) ?_
    refine tv_icmp_ge (tgt := 43) dTC_platformsWithSupplies_12 (by decide) (fun c12 => absurd c12 (nI_ge (a := k) (b := 8) (by omega) (by omega))) (fun c12 => ?_)
    refine tv_aload_n dTC_platformsWithSupplies_15 rfl rfl ?_
    refine gTC_29 rfl dTC_platformsWithSupplies_16 ?_
    refine tv_iload_n dTC_platformsWithSupplies_19 rfl rfl ?_
    refine ldC_6 dTC_platformsWithSupplies_20 ht ?_
    refine tv_iload_n dTC_platformsWithSupplies_21 rfl rfl ?_
    refine tv_callS2r kTC_93 (by decide) (Nat.le_of_ble_eq_true rfl) ⟨rfl, rfl⟩ (cc_hasBit _ _ (by omega)) ⟨Nat.zero_le _, Nat.zero_le _⟩ dTC_platformsWithSupplies_22 ?_
    refine tv_if_eq (tgt := 37) dTC_platformsWithSupplies_25 (by decide) (fun c25 => ?_) (fun c25 => ?_)
    · have e25 := tc_pws_no (r := σ.1 5 t) (sup := σ.1 8) (tc_b2_0.mp c25)
      have h9 := ih (k + 1) (by omega) hr hh
      refine tv_iinc_3 dTC_platformsWithSupplies_37 (by decide) (nI_1 k) ?_
      refine tv_goto (tgt := 9) dTC_platformsWithSupplies_40 (by decide) ?_
      rw [e25] at h9
      exact h9
    · have e25 := tc_pws_yes (r := σ.1 5 t) (sup := σ.1 8) (tc_b2_n.mp c25)
      have h9 := ih (k + 1) (by omega) hr hh
      refine tv_iload_n dTC_platformsWithSupplies_28 rfl rfl ?_
      refine tv_aload_n dTC_platformsWithSupplies_29 rfl rfl ?_
      refine gTC_70 rfl dTC_platformsWithSupplies_30 ?_
      refine tv_iload_n dTC_platformsWithSupplies_33 rfl rfl ?_
      refine ldC_19 dTC_platformsWithSupplies_34 (by omega) ?_
      refine tv_iand dTC_platformsWithSupplies_35 ?_
      refine tv_istN_2 dTC_platformsWithSupplies_36 (by decide) ?_
      refine tv_iinc_3 dTC_platformsWithSupplies_37 (by decide) (nI_1 k) ?_
      refine tv_goto (tgt := 9) dTC_platformsWithSupplies_40 (by decide) ?_
      rw [e25] at h9
      exact h9
set_option maxHeartbeats 4000000 in
set_option maxRecDepth 100000 in
theorem cc_platformsWithSupplies (σ : tcS) {t : Nat} (ht : t < 24) : tc_M yTC_platformsWithSupplies cTC_platformsWithSupplies 4 (some .int) 1 [.inr (some 0), .inl (nI t)] (tc_hC σ, some (.inl (tc_pws (σ.1 5 t) (σ.1 4 t) (σ.1 8) 8)), tc_hC σ, 0, 0) := by
  refine tc_met (by decide) (Nat.le_of_ble_eq_true rfl) (Nat.le_of_eq tc_hC_len) rfl ?_
  refine tv_aload_n dTC_platformsWithSupplies_0 rfl rfl ?_
  refine gTC_61 rfl dTC_platformsWithSupplies_1 ?_
  refine tv_iload_n dTC_platformsWithSupplies_4 rfl rfl ?_
  refine ldC_16 dTC_platformsWithSupplies_5 ht ?_
  refine tv_istN_2 dTC_platformsWithSupplies_6 (by decide) ?_
  refine tv_iconst (v := 0) dTC_platformsWithSupplies_7 (by decide) ?_
  refine tv_istN_3 dTC_platformsWithSupplies_8 (by decide) ?_
  exact cl_platformsWithSupplies_9 σ ht 8 0 rfl rfl rfl
theorem tc_gb_eq {t : Nat} {a : tcS × Bool} (h : tc_pws (a.1.1 5 t) (a.1.1 4 t) (a.1.1 8) 8 = a.1.1 7 t) : tc_gb t a = a := by unfold tc_gb; rw [if_pos h]
def tc_gs (t : Nat) (σ : tcS) : tcS := tc_s1 (tc_s1 σ 7 (upd (σ.1 7) t (tc_pws (σ.1 5 t) (σ.1 4 t) (σ.1 8) 8))) 8 (upd (σ.1 8) (σ.2.1 0 t) (σ.1 8 (σ.2.1 0 t) ||| σ.1 6 t))
theorem tc_gb_ne {t : Nat} {a : tcS × Bool} (h : ¬ tc_pws (a.1.1 5 t) (a.1.1 4 t) (a.1.1 8) 8 = a.1.1 7 t) : tc_gb t a = (tc_gs t a.1, true) := by unfold tc_gb; rw [if_neg h]; rfl
theorem tc_gb_k (t : Nat) (a : tcS × Bool) : (tc_gb t a).1.2 = a.1.2 ∧ (tc_gb t a).1.1 11 = a.1.1 11 := by
  unfold tc_gb
  split
  · exact ⟨rfl, rfl⟩
  · exact ⟨rfl, rfl⟩
theorem tc_up_k {f : Nat → tcS × Bool → tcS × Bool} (hf : ∀ t a, (f t a).1.2 = a.1.2 ∧ (f t a).1.1 11 = a.1.1 11) : ∀ (n t : Nat) (a : tcS × Bool), (tc_up f n t a).1.2 = a.1.2 ∧ (tc_up f n t a).1.1 11 = a.1.1 11
  | 0, _, _ => ⟨rfl, rfl⟩
  | n + 1, t, a => by
    have h1 := tc_up_k hf n (t + 1) (f t a)
    have h2 := hf t a
    exact ⟨h1.1.trans h2.1, h1.2.trans h2.2⟩
theorem tc_up_k1 {f : Nat → tcS → tcS} (hf : ∀ t a, (f t a).2 = a.2 ∧ (f t a).1 11 = a.1 11) : ∀ (n t : Nat) (a : tcS), (tc_up f n t a).2 = a.2 ∧ (tc_up f n t a).1 11 = a.1 11
  | 0, _, _ => ⟨rfl, rfl⟩
  | n + 1, t, a => by
    have h1 := tc_up_k1 hf n (t + 1) (f t a)
    have h2 := hf t a
    exact ⟨h1.1.trans h2.1, h1.2.trans h2.2⟩
theorem tc_grow_k (σ : tcS) : (tc_grow σ).1.2 = σ.2 ∧ (tc_grow σ).1.1 11 = σ.1 11 := tc_up_k tc_gb_k _ _ _
set_option maxHeartbeats 4000000 in
set_option maxRecDepth 100000 in
theorem cl_growBuilt_4  {K : tcK} : ∀ (n : Nat) (t : Nat) (a : tcS × Bool), tc_I a.1 → t + n = a.1.2.2.2 1 → K.2.1 = some (.inl (tc_b2 (tc_up tc_gb n t a).2)) → K.2.2.1 = tc_hC (tc_up tc_gb n t a).1 → tc_V (cTC_growBuilt, 4, yTC_growBuilt.cls, some .boolean, 2, yTC_growBuilt.name) K 0 0 (tc_hC a.1) 4 [some (.inr (some 0)), some (.inl (tc_b2 a.2)), some (.inl (nI t)), none] [] := by
  intro n
  induction n with
  | zero =>
    intro t a hI ht hr hh
    obtain ⟨iP, iT, iN, iA, iR, iK, iO, iQ, iF, iB⟩ := id hI
    refine tv_iload_n dTC_growBuilt_4 rfl rfl ?_
    refine tv_aload_n dTC_growBuilt_5 rfl rfl ?_
    refine gTC_35 rfl dTC_growBuilt_6 ?_
    refine tv_icmp_ge (tgt := 63) dTC_growBuilt_9 (by decide) (fun c9 => ?_) (fun c9 => absurd (nI_le (by omega) (by omega)) c9)
    refine tv_iload_n dTC_growBuilt_63 rfl rfl ?_
    exact tv_iret dTC_growBuilt_64 rfl (by cases a.2 <;> rfl) hr hh
  | succ n ih =>
    intro t a hI ht hr hh
    obtain ⟨iP, iT, iN, iA, iR, iK, iO, iQ, iF, iB⟩ := id hI
    refine tv_iload_n dTC_growBuilt_4 rfl rfl ?_
    refine tv_aload_n dTC_growBuilt_5 rfl rfl ?_
    refine gTC_35 rfl dTC_growBuilt_6 ?_
    refine tv_icmp_ge (tgt := 63) dTC_growBuilt_9 (by decide) (fun c9 => absurd c9 (nI_ge (by omega) (by omega))) (fun c9 => ?_)
    refine tv_aload_n dTC_growBuilt_12 rfl rfl ?_
    refine tv_iload_n dTC_growBuilt_13 rfl rfl ?_
    refine tv_callV1r kTC_165 (by decide) (Nat.le_of_ble_eq_true rfl) ⟨rfl, rfl⟩ rfl (cc_platformsWithSupplies a.1 (by omega)) ⟨Nat.zero_le _, Nat.zero_le _⟩ dTC_growBuilt_14 ?_
    refine tv_istN_3 dTC_growBuilt_17 (by decide) ?_
    refine tv_iload_n dTC_growBuilt_18 rfl rfl ?_
    refine tv_aload_n dTC_growBuilt_19 rfl rfl ?_
    refine gTC_67 rfl dTC_growBuilt_20 ?_
    refine tv_iload_n dTC_growBuilt_23 rfl rfl ?_
    refine ldC_18 dTC_growBuilt_24 (by omega) ?_
    refine tv_icmp_eq (tgt := 57) dTC_growBuilt_25 (by decide) (fun c25 => ?_) (fun c25 => ?_)
    · have h9 := ih (t + 1) a hI (by omega) (by rw [hr]; show some (Sum.inl (tc_b2 (tc_up tc_gb n (t + 1) (tc_gb t a)).2)) = _; rw [tc_gb_eq c25]) (by rw [hh]; show tc_hC (tc_up tc_gb n (t + 1) (tc_gb t a)).1 = _; rw [tc_gb_eq c25])
      refine tv_iinc_2 dTC_growBuilt_57 (by decide) (nI_1 t) ?_
      refine tv_goto (tgt := 4) dTC_growBuilt_60 (by decide) ?_
      refine tv_fg_3 ?_
      exact h9
    · have h9 := ih (t + 1) (tc_gs t a.1, true) (tc_I_of hI rfl rfl) (by show t + 1 + n = a.1.2.2.2 1; omega) (by rw [hr]; show some (Sum.inl (tc_b2 (tc_up tc_gb n (t + 1) (tc_gb t a)).2)) = _; rw [tc_gb_ne c25]) (by rw [hh]; show tc_hC (tc_up tc_gb n (t + 1) (tc_gb t a)).1 = _; rw [tc_gb_ne c25])
      refine tv_aload_n dTC_growBuilt_28 rfl rfl ?_
      refine gTC_67 rfl dTC_growBuilt_29 ?_
      refine tv_iload_n dTC_growBuilt_32 rfl rfl ?_
      refine tv_iload_n dTC_growBuilt_33 rfl rfl ?_
      refine stC_18 dTC_growBuilt_34 (by omega) ?_
      refine tv_aload_n dTC_growBuilt_35 rfl rfl ?_
      refine gTC_70 rfl dTC_growBuilt_36 ?_
      refine tv_aload_n dTC_growBuilt_39 rfl rfl ?_
      refine gTC_17 rfl dTC_growBuilt_40 ?_
      refine tv_iload_n dTC_growBuilt_43 rfl rfl ?_
      refine ldC_2 dTC_growBuilt_44 (by omega) ?_
      refine tv_dup2 dTC_growBuilt_45 ?_
      refine ldC_19 dTC_growBuilt_46 (iK t (by omega)) ?_
      refine tv_aload_n dTC_growBuilt_47 rfl rfl ?_
      refine gTC_64 rfl dTC_growBuilt_48 ?_
      refine tv_iload_n dTC_growBuilt_51 rfl rfl ?_
      refine ldC_17 dTC_growBuilt_52 (by omega) ?_
      refine tv_ior dTC_growBuilt_53 ?_
      refine stC_19 dTC_growBuilt_54 (iK t (by omega)) ?_
      refine tv_iconst (v := 1) dTC_growBuilt_55 (by decide) ?_
      refine tv_istN_1 dTC_growBuilt_56 (by decide) ?_
      refine tv_iinc_2 dTC_growBuilt_57 (by decide) (nI_1 t) ?_
      refine tv_goto (tgt := 4) dTC_growBuilt_60 (by decide) ?_
      refine tv_fg_3 ?_
      exact h9
set_option maxHeartbeats 4000000 in
set_option maxRecDepth 100000 in
theorem cc_growBuilt (σ : tcS) (hI : tc_I σ) : tc_M yTC_growBuilt cTC_growBuilt 4 (some .boolean) 2 [.inr (some 0)] (tc_hC σ, some (.inl (tc_b2 (tc_grow σ).2)), tc_hC (tc_grow σ).1, 0, 0) := by
  refine tc_met (by decide) (Nat.le_of_ble_eq_true rfl) (Nat.le_of_eq tc_hC_len) rfl ?_
  refine tv_iconst (v := 0) dTC_growBuilt_0 (by decide) ?_
  refine tv_istN_1 dTC_growBuilt_1 (by decide) ?_
  refine tv_iconst (v := 0) dTC_growBuilt_2 (by decide) ?_
  refine tv_istN_2 dTC_growBuilt_3 (by decide) ?_
  exact cl_growBuilt_4 (σ.2.2.2 1) 0 (σ, false) hI (by show 0 + _ = σ.2.2.2 1; omega) rfl rfl
