theorem tc_hC_len {σ τ : tcS} : (tc_hC σ).length = (tc_hC τ).length := rfl
/-- what holds of the class's state between calls -/
def tc_I (σ : tcS) : Prop := σ.2.2.2 0 ≤ 6 ∧ σ.2.2.2 1 ≤ 24 ∧ σ.2.2.2 2 ≤ 40 ∧ σ.2.2.2 3 ≤ 8 ∧ σ.2.2.2 4 ≤ 144 ∧ (∀ t, t < σ.2.2.2 1 → σ.2.1 0 t < 8) ∧ (∀ i, i < σ.2.2.2 1 → σ.2.1 1 i < σ.2.2.2 1) ∧ (∀ i, i < σ.2.2.2 3 → σ.2.1 2 i < 8) ∧ (∀ k t, σ.2.2.1 0 k = some t → t < 24) ∧ (∀ k, σ.1 11 k = 0 ∨ σ.1 11 k = 1)
theorem tc_bit1 {x : Int32} {k : Nat} (hk : k < 32) (h : ¬ ((x.toUInt32 >>> ((nI k).toUInt32 &&& Int32.toUInt32 31)).toInt32 &&& 1) = 0) : bt x k = true := by
  cases e : bt x k
  · exact absurd ((tc_bit hk).mpr e) h
  · rfl
theorem tc_ff_no {p : Nat → Bool} {n k : Nat} (h : p k = false) : tc_ff p (n + 1) k = tc_ff p n (k + 1) := by simp [tc_ff, h]
theorem tc_ff_yes {p : Nat → Bool} {n k : Nat} (h : p k = true) : tc_ff p (n + 1) k = some k := by simp [tc_ff, h]
theorem tc_b2_0 {b : Bool} : tc_b2 b = 0 ↔ b = false := by cases b <;> decide
theorem tc_b2_n {b : Bool} : ¬ tc_b2 b = 0 ↔ b = true := by cases b <;> decide
theorem tc_oI_m1 {o : Option Nat} (ho : ∀ k, o = some k → k < 2 ^ 31) : tc_oI o = -1 ↔ o = none := by
  cases o with
  | none => exact ⟨fun _ => rfl, fun _ => rfl⟩
  | some k =>
    refine ⟨fun h => ?_, fun h => by cases h⟩
    have h1 : nI k = -1 := h
    have h2 := nI_pos' (ho k rfl)
    rw [h1] at h2
    exact absurd h2 (by decide)
theorem tc_oI_some {o : Option Nat} {t : Nat} (ho : ∀ k, o = some k → k < 2 ^ 31) (ht : t < 2 ^ 31) : tc_oI o = nI t ↔ o = some t := by
  cases o with
  | none =>
    refine ⟨fun h => ?_, fun h => by cases h⟩
    have h1 : (-1 : Int32) = nI t := h
    have h2 := nI_pos' ht
    rw [← h1] at h2
    exact absurd h2 (by decide)
  | some k =>
    refine ⟨fun h => ?_, fun h => by cases h; rfl⟩
    rw [(nI_eq (ho k rfl) ht).mp h]
set_option maxHeartbeats 4000000 in
set_option maxRecDepth 100000 in
theorem cc_hasBit (h : List tcC) (x : Int32) {k : Nat} (hk : k < 32) : tc_M yTC_hasBit cTC_hasBit 2 (some .boolean) 0 [.inl x, .inl (nI k)] (h, some (.inl (tc_b2 (bt x k))), h, 0, 0) := by
  refine tc_met (by decide) (Nat.le_of_ble_eq_true rfl) (Nat.le_refl _) rfl ?_
  refine tv_iload_n dTC_hasBit_0 rfl rfl ?_
  refine tv_iload_n dTC_hasBit_1 rfl rfl ?_
  refine tv_iushr dTC_hasBit_2 ?_
  refine tv_iconst (v := 1) dTC_hasBit_3 (by decide) ?_
  refine tv_iand dTC_hasBit_4 ?_
  refine tv_if_eq (tgt := 12) dTC_hasBit_5 (by decide) (fun c5 => ?_) (fun c5 => ?_)
  · have hr := tc_rb ((tc_bit hk).mp c5)
    refine tv_iconst (v := 0) dTC_hasBit_12 (by decide) ?_
    exact tv_iret dTC_hasBit_13 rfl rfl hr rfl
  · have hr := tc_rb (tc_bit1 hk c5)
    refine tv_iconst (v := 1) dTC_hasBit_8 (by decide) ?_
    refine tv_goto (tgt := 13) dTC_hasBit_9 (by decide) ?_
    exact tv_iret dTC_hasBit_13 rfl rfl hr rfl
set_option maxHeartbeats 4000000 in
set_option maxRecDepth 100000 in
theorem cc_isKind (h : List tcC) (x : Int32) : tc_M yTC_isKind cTC_isKind 1 (some .boolean) 0 [.inl x] (h, some (.inl (tc_b2 (tc_isN x 8))), h, 0, 0) := by
  refine tc_met (by decide) (Nat.le_of_ble_eq_true rfl) (Nat.le_refl _) rfl ?_
  refine tv_iload_n dTC_isKind_0 rfl rfl ?_
  refine tv_if_lt (tgt := 14) dTC_isKind_1 (by decide) (fun c1 => ?_) (fun c1 => ?_)
  · have hr := tc_rb (tc_isN_neg (n := 8) c1)
    refine tv_iconst (v := 0) dTC_isKind_14 (by decide) ?_
    exact tv_iret dTC_isKind_15 rfl rfl hr rfl
  · refine tv_iload_n dTC_isKind_4 rfl rfl ?_
    refine tv_bipush (v := 8) dTC_isKind_5 (by decide) ?_
    refine tv_icmp_ge (tgt := 14) dTC_isKind_7 (by decide) (fun c7 => ?_) (fun c7 => ?_)
    · have hr := tc_rb (tc_isN_big (n := 8) c7)
      refine tv_iconst (v := 0) dTC_isKind_14 (by decide) ?_
      exact tv_iret dTC_isKind_15 rfl rfl hr rfl
    · have hr := tc_rb (tc_isN_in (n := 8) c1 c7)
      refine tv_iconst (v := 1) dTC_isKind_10 (by decide) ?_
      refine tv_goto (tgt := 15) dTC_isKind_11 (by decide) ?_
      exact tv_iret dTC_isKind_15 rfl rfl hr rfl
set_option maxHeartbeats 4000000 in
set_option maxRecDepth 100000 in
theorem cc_isTool (σ : tcS) (x : Int32) : tc_M yTC_isTool cTC_isTool 2 (some .boolean) 0 [.inr (some 0), .inl x] (tc_hC σ, some (.inl (tc_b2 (tc_isN x (σ.2.2.2 1)))), tc_hC σ, 0, 0) := by
  refine tc_met (by decide) (Nat.le_of_ble_eq_true rfl) (Nat.le_of_eq tc_hC_len) rfl ?_
  refine tv_iload_n dTC_isTool_0 rfl rfl ?_
  refine tv_if_lt (tgt := 16) dTC_isTool_1 (by decide) (fun c1 => ?_) (fun c1 => ?_)
  · have hr := tc_rb (tc_isN_neg (n := σ.2.2.2 1) c1)
    refine tv_iconst (v := 0) dTC_isTool_16 (by decide) ?_
    exact tv_iret dTC_isTool_17 rfl rfl hr rfl
  · refine tv_iload_n dTC_isTool_4 rfl rfl ?_
    refine tv_aload_n dTC_isTool_5 rfl rfl ?_
    refine gTC_35 rfl dTC_isTool_6 ?_
    refine tv_icmp_ge (tgt := 16) dTC_isTool_9 (by decide) (fun c9 => ?_) (fun c9 => ?_)
    · have hr := tc_rb (tc_isN_big c9)
      refine tv_iconst (v := 0) dTC_isTool_16 (by decide) ?_
      exact tv_iret dTC_isTool_17 rfl rfl hr rfl
    · have hr := tc_rb (tc_isN_in c1 c9)
      refine tv_iconst (v := 1) dTC_isTool_12 (by decide) ?_
      refine tv_goto (tgt := 17) dTC_isTool_13 (by decide) ?_
      exact tv_iret dTC_isTool_17 rfl rfl hr rfl
set_option maxHeartbeats 4000000 in
set_option maxRecDepth 100000 in
theorem cc_isPlatform (σ : tcS) (x : Int32) : tc_M yTC_isPlatform cTC_isPlatform 2 (some .boolean) 0 [.inr (some 0), .inl x] (tc_hC σ, some (.inl (tc_b2 (tc_isN x (σ.2.2.2 0)))), tc_hC σ, 0, 0) := by
  refine tc_met (by decide) (Nat.le_of_ble_eq_true rfl) (Nat.le_of_eq tc_hC_len) rfl ?_
  refine tv_iload_n dTC_isPlatform_0 rfl rfl ?_
  refine tv_if_lt (tgt := 16) dTC_isPlatform_1 (by decide) (fun c1 => ?_) (fun c1 => ?_)
  · have hr := tc_rb (tc_isN_neg (n := σ.2.2.2 0) c1)
    refine tv_iconst (v := 0) dTC_isPlatform_16 (by decide) ?_
    exact tv_iret dTC_isPlatform_17 rfl rfl hr rfl
  · refine tv_iload_n dTC_isPlatform_4 rfl rfl ?_
    refine tv_aload_n dTC_isPlatform_5 rfl rfl ?_
    refine gTC_13 rfl dTC_isPlatform_6 ?_
    refine tv_icmp_ge (tgt := 16) dTC_isPlatform_9 (by decide) (fun c9 => ?_) (fun c9 => ?_)
    · have hr := tc_rb (tc_isN_big c9)
      refine tv_iconst (v := 0) dTC_isPlatform_16 (by decide) ?_
      exact tv_iret dTC_isPlatform_17 rfl rfl hr rfl
    · have hr := tc_rb (tc_isN_in c1 c9)
      refine tv_iconst (v := 1) dTC_isPlatform_12 (by decide) ?_
      refine tv_goto (tgt := 17) dTC_isPlatform_13 (by decide) ?_
      exact tv_iret dTC_isPlatform_17 rfl rfl hr rfl
set_option maxHeartbeats 4000000 in
set_option maxRecDepth 100000 in
theorem cl_lowestBit_2 (h : List tcC) (x : Int32) {K : tcK} : ∀ (n : Nat) (k : Nat), k + n = 32 → K.2.1 = some (.inl (tc_oI (tc_ff (bt x) n k))) → K.2.2.1 = h → tc_V (cTC_lowestBit, 2, yTC_lowestBit.cls, some .int, 1, yTC_lowestBit.name) K 0 0 (h) 2 [some (.inl x), some (.inl (nI k))] [] := by
  intro n
  induction n with
  | zero =>
    intro k hk hr hh
    refine tv_iload_n dTC_lowestBit_2 rfl rfl ?_
    refine tv_bipush (v := 32) dTC_lowestBit_3 (by decide) ?_
    refine tv_icmp_ge (tgt := 24) dTC_lowestBit_5 (by decide) (fun c5 => ?_) (fun c5 => absurd (nI_le (a := 32) (b := k) (by omega) (by omega)) c5)
    refine tv_iconst (v := -1) dTC_lowestBit_24 (by decide) ?_
    exact tv_iret dTC_lowestBit_25 rfl rfl hr hh
  | succ n ih =>
    intro k hk hr hh
    refine tv_iload_n dTC_lowestBit_2 rfl rfl ?_
    refine tv_bipush (v := 32) dTC_lowestBit_3 (by decide) ?_
    refine tv_icmp_ge (tgt := 24) dTC_lowestBit_5 (by decide) (fun c5 => absurd c5 (nI_ge (a := k) (b := 32) (by omega) (by omega))) (fun c5 => ?_)
    refine tv_iload_n dTC_lowestBit_8 rfl rfl ?_
    refine tv_iload_n dTC_lowestBit_9 rfl rfl ?_
    refine tv_callS2r kTC_93 (by decide) (Nat.le_of_ble_eq_true rfl) ⟨rfl, rfl⟩ (cc_hasBit h x (by omega)) ⟨Nat.zero_le _, Nat.zero_le _⟩ dTC_lowestBit_10 ?_
    refine tv_if_eq (tgt := 18) dTC_lowestBit_13 (by decide) (fun c13 => ?_) (fun c13 => ?_)
    · refine tv_iinc_1 dTC_lowestBit_18 (by decide) (nI_1 k) ?_
      refine tv_goto (tgt := 2) dTC_lowestBit_21 (by decide) ?_
      exact ih (k + 1) (by omega) (by rw [hr, tc_ff_no (tc_b2_0.mp c13)]) hh
    · refine tv_iload_n dTC_lowestBit_16 rfl rfl ?_
      exact tv_iret dTC_lowestBit_17 rfl rfl (by rw [hr, tc_ff_yes (tc_b2_n.mp c13)]; rfl) hh
set_option maxHeartbeats 4000000 in
set_option maxRecDepth 100000 in
theorem cc_lowestBit (h : List tcC) (x : Int32) : tc_M yTC_lowestBit cTC_lowestBit 2 (some .int) 1 [.inl x] (h, some (.inl (tc_oI (tc_ff (bt x) 32 0))), h, 0, 0) := by
  refine tc_met (by decide) (Nat.le_of_ble_eq_true rfl) (Nat.le_refl _) rfl ?_
  refine tv_iconst (v := 0) dTC_lowestBit_0 (by decide) ?_
  refine tv_istN_1 dTC_lowestBit_1 (by decide) ?_
  exact cl_lowestBit_2 h x 32 0 rfl rfl rfl
