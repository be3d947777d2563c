/-! ONE CALL OF BOTH: the same answer, and the two states still side by side -/
def lx_pr (yC : MethodName) (cC : ByteArray) (nC : Nat) (yM : MethodName) (cM : ByteArray) (nM : Nat) (ret : Option FieldType) (As : List tcV) (σ τ : tcS) : Prop :=
  ∃ (r : Int32) (σ' τ' : tcS) (dC dM : Nat), dC ≤ 8 ∧ dM ≤ 8 ∧ tc_M yC cC nC ret dC (.inr (some 0) :: As) (tc_hC σ, some (.inl r), tc_hC σ', 0, 0) ∧ tc_M yM cM nM ret dM (.inr (some 0) :: As) (tm_h τ, some (.inl r), tm_h τ', 0, 0) ∧ tr_R σ' τ'
theorem lx_mk {yC : MethodName} {cC : ByteArray} {nC : Nat} {yM : MethodName} {cM : ByteArray} {nM : Nat} {ret : Option FieldType} {As : List tcV} {σ τ σ' τ' : tcS} {r r' : Int32} {dC dM : Nat} (h1 : tc_M yC cC nC ret dC (.inr (some 0) :: As) (tc_hC σ, some (.inl r), tc_hC σ', 0, 0)) (h2 : tc_M yM cM nM ret dM (.inr (some 0) :: As) (tm_h τ, some (.inl r'), tm_h τ', 0, 0)) (he : r' = r) (hR : tr_R σ' τ') (hd : dC ≤ 8 ∧ dM ≤ 8 := by decide) : lx_pr yC cC nC yM cM nM ret As σ τ := by
  subst he
  exact ⟨r', σ', τ', dC, dM, hd.1, hd.2, h1, h2, hR⟩
theorem lx_8 {x : Int32} : tc_isN x 8 = false ∨ ∃ k, k < 8 ∧ x = nI k := by
  cases h : tc_isN x 8
  · exact Or.inl rfl
  · exact Or.inr (tc_isN_ex (by omega) h)
theorem lx_n (x : Int32) {n : Nat} (hn : n ≤ 200) : tc_isN x n = false ∨ ∃ k, k < n ∧ x = nI k := by
  cases h : tc_isN x n
  · exact Or.inl rfl
  · exact Or.inr (tc_isN_ex (by omega) h)
theorem lp_platform {σ τ : tcS} (h : tr_R σ τ) (c : Int32) : lx_pr yTC_platform cTC_platform 2 yMO_platform cMO_platform 2 (some .int) [.inl c] σ τ := by
  have r := tr_platform (tr_code h) c
  exact lx_mk (cc_platform σ h.1 c) (mm_platform τ h.2.1 c) (by rw [r.1]) r.2
theorem lp_tool {σ τ : tcS} (h : tr_R σ τ) (x r m v : Int32) : lx_pr yTC_tool cTC_tool 6 yMO_tool cMO_tool 5 (some .int) [.inl x, .inl r, .inl m, .inl v] σ τ := by
  rcases lx_8 (x := x) with hx | ⟨k, hk, rfl⟩
  · exact lx_mk (cc_tool_no σ hx r m v) (mm_tool_no τ hx r m v) rfl (tr_code h)
  · have q := tr_tool (tr_code h) hk r m v
    exact lx_mk (cc_tool σ h.1 hk r m v) (mm_tool τ h.2.1 hk r m v) (by rw [q.1]) q.2
theorem lp_order {σ τ : tcS} (h : tr_R σ τ) (x y : Int32) : lx_pr yTC_order cTC_order 5 yMO_order cMO_order 5 (some .boolean) [.inl x, .inl y] σ τ := by
  have hc := tr_code h
  have e1 : (tc_s4 τ 5 0).2.2.2 1 = σ.2.2.2 1 := hc.2.2.1 1 (by omega)
  have iT := h.1.2.1
  rcases lx_n x (n := σ.2.2.2 1) (by omega) with hx | ⟨t, ht, rfl⟩
  · exact lx_mk (cc_order_no σ iT (Or.inl hx)) (mm_order_no τ (Or.inl (by rw [e1]; exact hx))) rfl hc
  · rcases lx_n y (n := σ.2.2.2 1) (by omega) with hy | ⟨p, hp, rfl⟩
    · exact lx_mk (cc_order_no σ iT (Or.inr hy)) (mm_order_no τ (Or.inr (by rw [e1]; exact hy))) rfl hc
    · have q := tr_order hc ht hp
      exact lx_mk (cc_order σ h.1 ht hp) (mm_order τ h.2.1 (by rw [e1]; exact ht) (by rw [e1]; exact hp) (fun i hi => Nat.lt_trans (hc.2.2.2.2.2.2.2.2.2.2.2.2.2 i hi) (by decide)) q.1) rfl q.2
theorem lp_needs {σ τ : tcS} (h : tr_R σ τ) (x y : Int32) : lx_pr yTC_needs cTC_needs 3 yMO_needs cMO_needs 3 (some .boolean) [.inl x, .inl y] σ τ := by
  have hc := tr_code h
  have e1 : (tc_s4 τ 5 0).2.2.2 1 = σ.2.2.2 1 := hc.2.2.1 1 (by omega)
  have iT := h.1.2.1
  rcases lx_n x (n := σ.2.2.2 1) (by omega) with hx | ⟨t, ht, rfl⟩
  · exact lx_mk (cc_needs_no σ (Or.inl hx)) (mm_needs_no τ (Or.inl (by rw [e1]; exact hx))) rfl hc
  · rcases lx_8 (x := y) with hy | ⟨k, hk, rfl⟩
    · exact lx_mk (cc_needs_no σ (Or.inr hy)) (mm_needs_no τ (Or.inr hy)) rfl hc
    · have q := tr_needs hc ht hk
      exact lx_mk (cc_needs σ h.1 ht hk) (mm_needs τ h.2.1 (by rw [e1]; exact ht) hk) (by rw [q.1]) q.2
theorem lp_ask {σ τ : tcS} (h : tr_R σ τ) (x v b : Int32) (hb : b = 0 ∨ b = 1) : lx_pr yTC_ask cTC_ask 4 yMO_ask cMO_ask 4 (some .boolean) [.inl x, .inl v, .inl b] σ τ := by
  have hc := tr_code h
  have hn : vp_nar .boolean b = b := by
    rcases hb with rfl | rfl <;> rfl
  rcases lx_8 (x := x) with hx | ⟨k, hk, rfl⟩
  · exact lx_mk (cc_ask_no σ hx v b) (mm_ask_no τ hx v b) rfl hc
  · have e3 : (tc_s4 τ 5 0).2.2.2 3 = σ.2.2.2 3 := hc.2.2.1 3 (by omega)
    exact lx_mk (cc_ask σ h.1 hk v b hn) (mm_ask τ h.2.1 hk v b hn (fun q => by rw [tr_place hc] at q; rw [e3]; exact tr_lt8 hc hk q)) rfl (tr_put hc hk v b hb)
theorem lp_drop {σ τ : tcS} (h : tr_R σ τ) (x : Int32) : lx_pr yTC_drop cTC_drop 2 yMO_drop cMO_drop 4 (some .boolean) [.inl x] σ τ := by
  have hc := tr_code h
  rcases lx_8 (x := x) with hx | ⟨k, hk, rfl⟩
  · exact lx_mk (cc_drop_no σ hx) (mm_drop_no τ hx) rfl hc
  · have q := tr_drop hc hk
    exact lx_mk (cc_drop σ h.1 hk) (mm_drop τ h.2.1 hk) (by rw [q.1]) q.2
theorem lp_force {σ τ : tcS} (h : tr_R σ τ) (x y : Int32) : lx_pr yTC_force cTC_force 3 yMO_force cMO_force 3 (some .boolean) [.inl x, .inl y] σ τ := by
  have hc := tr_code h
  have e1 : (tc_s4 τ 5 0).2.2.2 1 = σ.2.2.2 1 := hc.2.2.1 1 (by omega)
  have iT := h.1.2.1
  rcases lx_n x (n := σ.2.2.2 1) (by omega) with hx | ⟨t, ht, rfl⟩
  · by_cases e : x = -1
    · rcases lx_8 (x := y) with hy | ⟨k, hk, rfl⟩
      · exact lx_mk (cc_force_no σ hx (fun _ => hy)) (mm_force_no τ (by rw [e1]; exact hx) (fun _ => hy)) rfl hc
      · subst e
        exact lx_mk (cc_force σ hk) (mm_force τ hk) rfl (tr_force hc hk (fun t q => by cases q))
    · exact lx_mk (cc_force_no σ hx (fun q => absurd q e)) (mm_force_no τ (by rw [e1]; exact hx) (fun q => absurd q e)) rfl hc
  · have ek : (tc_s4 τ 5 0).2.1 0 t = σ.2.1 0 t := (hc.2.2.2.2.1 t ht).2.2.2.1
    refine lx_mk (cc_force_t σ h.1 ht y) (mm_force_t τ h.2.1 (by rw [e1]; exact ht) y) rfl ?_
    rw [ek]
    exact tr_force hc (h.1.2.2.2.2.2.1 t ht) (fun u q => by cases q; omega)
theorem lp_choose {σ τ : tcS} (h : tr_R σ τ) (x : Int32) : lx_pr yTC_choose cTC_choose 3 yMO_choose cMO_choose 3 (some .int) [.inl x] σ τ := by
  have hc := tr_code h
  have e0 : (tc_s4 τ 5 0).2.2.2 0 = σ.2.2.2 0 := hc.2.2.1 0 (by omega)
  have iP := h.1.1
  rcases lx_n x (n := σ.2.2.2 0) (by omega) with hx | ⟨g, hg, rfl⟩
  · exact lx_mk (cc_choose_no σ hx) (mm_choose_no τ (by rw [e0]; exact hx)) rfl hc
  · have q := tr_choose hc hg
    exact lx_mk (cc_choose σ h.1 hg) (mm_choose τ h.2.1 (by rw [e0]; exact hg) (Nat.le_trans (tr_smM hc) (by decide))) (by rw [q.1]) q.2
theorem lp_chosen {σ τ : tcS} (h : tr_R σ τ) (x : Int32) : lx_pr yTC_chosen cTC_chosen 2 yMO_chosen cMO_chosen 2 (some .int) [.inl x] σ τ := by
  have hc := tr_code h
  rcases lx_8 (x := x) with hx | ⟨k, hk, rfl⟩
  · exact lx_mk (cc_chosen_no σ hx) (mm_chosen_no τ hx) rfl hc
  · exact lx_mk (cc_chosen σ hk) (mm_chosen τ hk) (by rw [(hc.2.2.2.2.2.2.1 k hk).2.2.2]) hc
theorem lp_rows {σ τ : tcS} (h : tr_R σ τ) : lx_pr yTC_rows cTC_rows 1 yMO_rows cMO_rows 1 (some .int) [] σ τ := by
  have hc := tr_code h
  exact lx_mk (cc_rows σ) (mm_rows τ) (by rw [hc.2.2.1 4 (by omega)]) hc
theorem lp_row {σ τ : tcS} (h : tr_R σ τ) (i w : Int32) : lx_pr yTC_row cTC_row 3 yMO_row cMO_row 3 (some .int) [.inl i, .inl w] σ τ := by
  have hc := tr_code h
  exact lx_mk (cc_row σ h.1 i w) (mm_row τ h.2.1 i w) (tr_cell hc i w) hc
theorem lp_built {σ τ : tcS} (h : tr_R σ τ) (x y : Int32) : lx_pr yTC_built cTC_built 3 yMO_built cMO_built 3 (some .boolean) [.inl x, .inl y] σ τ := by
  have hc := tr_code h
  have e0 : (tc_s4 τ 5 0).2.2.2 0 = σ.2.2.2 0 := hc.2.2.1 0 (by omega)
  have e1 : (tc_s4 τ 5 0).2.2.2 1 = σ.2.2.2 1 := hc.2.2.1 1 (by omega)
  have iP := h.1.1
  have iT := h.1.2.1
  rcases lx_n x (n := σ.2.2.2 1) (by omega) with hx | ⟨t, ht, rfl⟩
  · exact lx_mk (cc_built_no σ (Or.inl hx)) (mm_built_no τ (Or.inl (by rw [e1]; exact hx))) rfl hc
  · rcases lx_n y (n := σ.2.2.2 0) (by omega) with hy | ⟨p, hp, rfl⟩
    · exact lx_mk (cc_built_no σ (Or.inr hy)) (mm_built_no τ (Or.inr (by rw [e0]; exact hy))) rfl hc
    · have q := tr_settle_W hc
      have hk := tc_settle_k σ
      have g := (q.2.1 t p (by rw [hk.1]; exact ht) (by rw [hk.1]; exact hp)).2.2
      exact lx_mk (cc_built σ h.1 ht hp) (mm_built τ h.2.1 (by rw [e1]; exact ht) (by rw [e0]; exact hp)) (by rw [g]) q.1
theorem lp_ring {σ τ : tcS} (h : tr_R σ τ) (i : Int32) : lx_pr yTC_ring cTC_ring 4 yMO_ring cMO_ring 4 (some .int) [.inl i] σ τ := by
  have hc := tr_code h
  have q := tr_ring hc i
  exact lx_mk (cc_ring σ h.1 i) (mm_ring τ h.2.1 i) q.1 q.2
/-- at the start -/
theorem tr_z : tr_R tc_z0 tm_z0 := by
  have e1 : tm_z0.1 = fun _ _ => 0 := rfl
  have e2 : tm_z0.2.1 = fun _ _ => 0 := rfl
  have e4 : tm_z0.2.2.2 = fun _ => 0 := rfl
  have e3 : ∀ k, k < 8 → tm_z0.2.2.1 0 k = none ∧ tm_z0.2.2.1 1 k = none := by decide +kernel
  have e5 : ∀ k, tm_z0.2.2.1 0 k = none ∨ tm_z0.2.2.1 0 k = some 0 := by
    intro k
    by_cases hk : k < 8
    · exact Or.inl (e3 k hk).1
    · right
      show va_up (va_up (va_up (va_up (va_up (va_up (va_up (va_up (fun _ => some 0) 0 none) 1 none) 2 none) 3 none) 4 none) 5 none) 6 none) 7 none k = some 0
      simp [va_up, show k ≠ 0 by omega, show k ≠ 1 by omega, show k ≠ 2 by omega, show k ≠ 3 by omega, show k ≠ 4 by omega, show k ≠ 5 by omega, show k ≠ 6 by omega, show k ≠ 7 by omega]
  have f3 : ∀ j k, k < 8 → tc_z0.2.2.1 j k = none := by
    intro j k hk
    show tc_fill 8 none (fun _ => some 0) k = none
    unfold tc_fill
    rw [if_pos hk]
  have f5 : ∀ j k, tc_z0.2.2.1 j k = none ∨ tc_z0.2.2.1 j k = some 0 := by
    intro j k
    show tc_fill 8 none (fun _ => some 0) k = none ∨ tc_fill 8 none (fun _ => some 0) k = some 0
    unfold tc_fill
    split
    · exact Or.inl rfl
    · exact Or.inr rfl
  refine ⟨⟨Nat.zero_le _, Nat.zero_le _, Nat.zero_le _, Nat.zero_le _, Nat.zero_le _, fun t ht => absurd ht (Nat.not_lt_zero t), fun t ht => absurd ht (Nat.not_lt_zero t), fun t ht => absurd ht (Nat.not_lt_zero t), fun k t q => ?_, fun k => Or.inl rfl⟩, ⟨?_, ?_, ?_, ?_, ?_, fun t ht => ?_, fun t ht => ?_, fun t ht => ?_, fun k t q => ?_, fun k => ?_, fun i hi => ?_⟩, fun k hk => ?_, fun p hp => absurd hp (Nat.not_lt_zero p), fun p hp => absurd hp (Nat.not_lt_zero p), fun p hp => absurd hp (Nat.not_lt_zero p), fun k hk => ?_, fun t k ht hk => ?_, fun p hp => absurd hp (Nat.not_lt_zero p), fun i j hi => absurd hi (Nat.not_lt_zero i), fun p hp => absurd hp (Nat.not_lt_zero p), fun i j hi => absurd hi (Nat.not_lt_zero i), fun p hp => absurd hp (Nat.not_lt_zero p), fun i hi => ?_⟩
  · rcases f5 0 k with z | z <;> rw [z] at q <;> cases q
    omega
  all_goals (try rw [e4]); (try rw [e4] at *)
  all_goals (try exact Nat.zero_le _)
  · exact absurd ht (Nat.not_lt_zero t)
  · exact absurd ht (Nat.not_lt_zero t)
  · exact absurd ht (Nat.not_lt_zero t)
  · rcases e5 k with z | z <;> rw [z] at q <;> cases q
    omega
  · rw [e1]
    exact Or.inl rfl
  · exact absurd hi (Nat.not_lt_zero i)
  · rfl
  · rw [e1, (e3 k hk).1, (e3 k hk).2, f3 0 k hk, f3 1 k hk]
    exact ⟨rfl, rfl, rfl, rfl⟩
  · show bt 0 k = _
    rw [b_0]
    cases e : tm_wants tm_z0 t k
    · rfl
    · obtain ⟨j, hj, _⟩ := tm_wants_eq.mp e
      have hj : j < 0 := hj
      exact absurd hj (Nat.not_lt_zero j)
  · rw [e2]
    show 0 < 24
    omega
