theorem tc_fill_0 {α : Type} {v : α} {f : Nat → α} : tc_fill 0 v f = f := by
  funext j
  simp [tc_fill]
theorem tc_fill_s {v : Int32} {f : Nat → Int32} {k : Nat} : upd (tc_fill k v f) k v = tc_fill (k + 1) v f := by
  funext j
  unfold upd tc_fill
  by_cases h : j = k
  · subst h
    simp
  · have : (j < k + 1) ↔ (j < k) := by omega
    simp [h, this]
theorem tc_fill_o {n : Nat} {v : Option Nat} {f : Nat → Option Nat} : tc_fill n (tc_oI v) (fun j => tc_oI (f j)) = fun j => tc_oI (tc_fill n v f j) := by
  funext j
  unfold tc_fill
  split <;> rfl
theorem tc_set_same {α : Type} : ∀ (l : List α) (k : Nat) (a : α), l[k]? = some a → l.set k a = l
  | [], k, a, h => by simp at h
  | x :: l, 0, a, h => by simp at h; subst h; rfl
  | x :: l, k + 1, a, h => by
    show x :: l.set k a = x :: l
    rw [tc_set_same l k a (by simpa using h)]
set_option maxHeartbeats 4000000 in
set_option maxRecDepth 100000 in
theorem cl_fill_5 {K : tcK} {h0 : List tcC} {q m : Nat} {f : Nat → Int32} {v : Int32} (hm : m < 2 ^ 31) (hq : h0[q]? = some (.inl (0, m, .inl f))) (hr : K.2.1 = none) (hh : K.2.2.1 = h0.set q (.inl (0, m, .inl (tc_fill m v f)))) : ∀ (n : Nat) (i : Nat), i + n = m → tc_V (cAR_fill, 4, yAR_fill.cls, none, 0, yAR_fill.name) K 0 0 (h0.set q (.inl (0, m, .inl (tc_fill i v f)))) 5 [some (.inr (some q)), some (.inl v), some (.inl (nI i)), some (.inl (nI m))] [] := by
  have hlt : q < h0.length := (List.getElem?_eq_some_iff.mp hq).1
  intro n
  induction n with
  | zero =>
    intro i hi
    have ei : i = m := by omega
    subst ei
    refine tv_iload_n dAR_fill_5 rfl rfl ?_
    refine tv_iload_n dAR_fill_6 rfl rfl ?_
    refine tv_icmp_ge (tgt := 20) dAR_fill_7 (by decide) (fun c7 => ?_) (fun c7 => absurd (nI_le (Nat.le_refl _) hm) c7)
    exact tv_vret dAR_fill_20 rfl hr hh
  | succ n ih =>
    intro i hi
    refine tv_iload_n dAR_fill_5 rfl rfl ?_
    refine tv_iload_n dAR_fill_6 rfl rfl ?_
    refine tv_icmp_ge (tgt := 20) dAR_fill_7 (by decide) (fun c7 => absurd c7 (nI_ge (by omega) (by omega))) (fun c7 => ?_)
    refine tv_aload_n dAR_fill_10 rfl rfl ?_
    refine tv_iload_n dAR_fill_11 rfl rfl ?_
    refine tv_iload_n dAR_fill_12 rfl rfl ?_
    refine tv_iastN dAR_fill_13 (List.getElem?_set_self hlt) hm (by omega) (by rw [List.set_set, tc_fill_s]) ?_
    refine tv_iinc_2 dAR_fill_14 (by decide) (nI_1 i) ?_
    refine tv_goto (tgt := 5) dAR_fill_17 (by decide) ?_
    exact ih (i + 1) (by omega)
set_option maxHeartbeats 4000000 in
set_option maxRecDepth 100000 in
theorem cc_fill {h0 : List tcC} {q m : Nat} {f : Nat → Int32} {v : Int32} (hm : m < 2 ^ 31) (hq : h0[q]? = some (.inl (0, m, .inl f))) : tc_M yAR_fill cAR_fill 4 none 0 [.inr (some q), .inl v] (h0, none, h0.set q (.inl (0, m, .inl (tc_fill m v f))), 0, 0) := by
  refine tc_met (by decide) (Nat.le_of_ble_eq_true rfl) (by show h0.length ≤ _; rw [List.length_set]; exact Nat.le_refl _) rfl ?_
  refine tv_iconst (v := 0) dAR_fill_0 (by decide) ?_
  refine tv_istN_2 dAR_fill_1 (by decide) ?_
  refine tv_aload_n dAR_fill_2 rfl rfl ?_
  refine tv_alen (v := nI m) dAR_fill_3 hq (by decide) rfl ?_
  refine tv_istN_3 dAR_fill_4 (by decide) ?_
  have h9 := cl_fill_5 (K := (h0, none, h0.set q (.inl (0, m, .inl (tc_fill m v f))), 0, 0)) hm hq rfl rfl m 0 (by omega)
  rw [tc_fill_0, tc_set_same _ _ _ hq] at h9
  exact h9
theorem tc_i0_k (t : Nat) (σ : tcS) : (tc_i0 t σ).2 = σ.2 ∧ (tc_i0 t σ).1 11 = σ.1 11 := ⟨rfl, rfl⟩
theorem tc_pass_k : ∀ (n : Nat) (a : tcS × Bool), (tc_pass n a).2 = a.1.2 ∧ (tc_pass n a).1 11 = a.1.1 11
  | 0, _ => ⟨rfl, rfl⟩
  | n + 1, a => by
    unfold tc_pass
    split
    · have h1 := tc_pass_k n (tc_grow a.1)
      have h2 := tc_grow_k a.1
      exact ⟨h1.1.trans h2.1, h1.2.trans h2.2⟩
    · exact ⟨rfl, rfl⟩
theorem tc_pass_t {n : Nat} {a : tcS × Bool} (h : a.2 = true) : tc_pass (n + 1) a = tc_pass n (tc_grow a.1) := by rw [tc_pass, if_pos h]
theorem tc_pass_f {n : Nat} {a : tcS × Bool} (h : a.2 = false) : tc_pass (n + 1) a = a.1 := by rw [tc_pass, if_neg (by rw [h]; simp)]
theorem tc_settle_k (σ : tcS) : (tc_settle σ).2 = σ.2 ∧ (tc_settle σ).1 11 = σ.1 11 := by
  have h1 := tc_pass_k (σ.2.2.2 1 + 1) (tc_s1 (tc_up tc_i0 (σ.2.2.2 1) 0 σ) 8 (tc_fill 8 0 ((tc_up tc_i0 (σ.2.2.2 1) 0 σ).1 8)), true)
  have h2 := tc_up_k1 tc_i0_k (σ.2.2.2 1) 0 σ
  exact ⟨h1.1.trans h2.1, h1.2.trans h2.2⟩
set_option maxHeartbeats 4000000 in
set_option maxRecDepth 100000 in
theorem cl_settleBuilt_2  {K : tcK} : ∀ (n : Nat) (t : Nat) (ρ : tcS), tc_I ρ → t + n = ρ.2.2.2 1 → tc_V (cTC_settleBuilt, 3, yTC_settleBuilt.cls, none, 3, yTC_settleBuilt.name) K 0 0 (tc_hC (tc_up tc_i0 n t ρ)) 55 [some (.inr (some 0)), none, none] [] → tc_V (cTC_settleBuilt, 3, yTC_settleBuilt.cls, none, 3, yTC_settleBuilt.name) K 0 0 (tc_hC ρ) 2 [some (.inr (some 0)), some (.inl (nI t)), none] [] := by
  intro n
  induction n with
  | zero =>
    intro t ρ hI ht hx
    obtain ⟨iP, iT, iN, iA, iR, iK, iO, iQ, iF, iB⟩ := id hI
    refine tv_iload_n dTC_settleBuilt_2 rfl rfl ?_
    refine tv_aload_n dTC_settleBuilt_3 rfl rfl ?_
    refine gTC_35 rfl dTC_settleBuilt_4 ?_
    refine tv_icmp_ge (tgt := 55) dTC_settleBuilt_7 (by decide) (fun c7 => ?_) (fun c7 => absurd (nI_le (by omega) (by omega)) c7)
    refine tv_fg_1 ?_
    exact hx
  | succ n ih =>
    intro t ρ hI ht hx
    obtain ⟨iP, iT, iN, iA, iR, iK, iO, iQ, iF, iB⟩ := id hI
    refine tv_iload_n dTC_settleBuilt_2 rfl rfl ?_
    refine tv_aload_n dTC_settleBuilt_3 rfl rfl ?_
    refine gTC_35 rfl dTC_settleBuilt_4 ?_
    refine tv_icmp_ge (tgt := 55) dTC_settleBuilt_7 (by decide) (fun c7 => absurd c7 (nI_ge (by omega) (by omega))) (fun c7 => ?_)
    refine tv_aload_n dTC_settleBuilt_10 rfl rfl ?_
    refine gTC_61 rfl dTC_settleBuilt_11 ?_
    refine tv_iload_n dTC_settleBuilt_14 rfl rfl ?_
    refine tv_aload_n dTC_settleBuilt_15 rfl rfl ?_
    refine tv_aload_n dTC_settleBuilt_16 rfl rfl ?_
    refine gTC_20 rfl dTC_settleBuilt_17 ?_
    refine tv_iload_n dTC_settleBuilt_20 rfl rfl ?_
    refine ldC_3 dTC_settleBuilt_21 (by omega) ?_
    refine tv_callV1r kTC_158 (by decide) (Nat.le_of_ble_eq_true rfl) ⟨rfl, rfl⟩ rfl (cc_platformsHaving ρ hI (ρ.1 1 t)) ⟨Nat.zero_le _, Nat.zero_le _⟩ dTC_settleBuilt_22 ?_
    refine stC_16 dTC_settleBuilt_25 (by omega) ?_
    refine tv_aload_n dTC_settleBuilt_26 rfl rfl ?_
    refine gTC_64 rfl dTC_settleBuilt_27 ?_
    refine tv_iload_n dTC_settleBuilt_30 rfl rfl ?_
    refine tv_aload_n dTC_settleBuilt_31 rfl rfl ?_
    refine tv_aload_n dTC_settleBuilt_32 rfl rfl ?_
    refine gTC_23 rfl dTC_settleBuilt_33 ?_
    refine tv_iload_n dTC_settleBuilt_36 rfl rfl ?_
    refine ldC_4 dTC_settleBuilt_37 (by omega) ?_
    refine tv_top (b := .inl (ρ.1 2 t)) rfl ?_
    refine tv_callV1r kTC_158 (by decide) (Nat.le_of_ble_eq_true rfl) ⟨rfl, rfl⟩ rfl (cc_platformsHaving (tc_s1 ρ 5 (upd (ρ.1 5) t (tc_phav ρ (ρ.1 1 t)))) (tc_I_of hI rfl rfl) (ρ.1 2 t)) ⟨Nat.zero_le _, Nat.zero_le _⟩ dTC_settleBuilt_38 ?_
    refine tv_top (b := .inl (tc_phav ρ (ρ.1 2 t))) rfl ?_
    refine stC_17 dTC_settleBuilt_41 (by omega) ?_
    refine tv_eq (h' := tc_hC (tc_s1 (tc_s1 ρ 5 (upd (ρ.1 5) t (tc_phav ρ (ρ.1 1 t)))) 6 (upd (ρ.1 6) t (tc_phav ρ (ρ.1 2 t))))) ?_ rfl rfl rfl
    refine tv_aload_n dTC_settleBuilt_42 rfl rfl ?_
    refine gTC_67 rfl dTC_settleBuilt_43 ?_
    refine tv_iload_n dTC_settleBuilt_46 rfl rfl ?_
    refine tv_iconst (v := 0) dTC_settleBuilt_47 (by decide) ?_
    refine stC_18 dTC_settleBuilt_48 (by omega) ?_
    refine tv_eq (h' := tc_hC (tc_i0 t ρ)) ?_ rfl rfl rfl
    refine tv_iinc_1 dTC_settleBuilt_49 (by decide) (nI_1 t) ?_
    refine tv_goto (tgt := 2) dTC_settleBuilt_52 (by decide) ?_
    exact ih (t + 1) (tc_i0 t ρ) (tc_I_of hI rfl rfl) (by show t + 1 + n = ρ.2.2.2 1; omega) hx
set_option maxHeartbeats 4000000 in
set_option maxRecDepth 100000 in
theorem cl_settleBuilt_67  {K : tcK} : ∀ (n : Nat) (p : Nat) (a : tcS × Bool), tc_I a.1 → p + n = a.1.2.2.2 1 + 1 → K.2.1 = none → K.2.2.1 = tc_hC (tc_pass n a) → tc_V (cTC_settleBuilt, 3, yTC_settleBuilt.cls, none, 3, yTC_settleBuilt.name) K 0 0 (tc_hC a.1) 67 [some (.inr (some 0)), some (.inl (tc_b2 a.2)), some (.inl (nI p))] [] := by
  intro n
  induction n with
  | zero =>
    intro p a hI hp hr hh
    obtain ⟨iP, iT, iN, iA, iR, iK, iO, iQ, iF, iB⟩ := id hI
    refine tv_iload_n dTC_settleBuilt_67 rfl rfl ?_
    refine tv_aload_n dTC_settleBuilt_68 rfl rfl ?_
    refine gTC_35 rfl dTC_settleBuilt_69 ?_
    refine tv_icmp_gt (tgt := 90) dTC_settleBuilt_72 (by decide) (fun c72 => ?_) (fun c72 => absurd (nI_lt (by omega) (by omega)) c72)
    exact tv_vret dTC_settleBuilt_90 rfl hr hh
  | succ n ih =>
    intro p a hI hp hr hh
    obtain ⟨iP, iT, iN, iA, iR, iK, iO, iQ, iF, iB⟩ := id hI
    refine tv_iload_n dTC_settleBuilt_67 rfl rfl ?_
    refine tv_aload_n dTC_settleBuilt_68 rfl rfl ?_
    refine gTC_35 rfl dTC_settleBuilt_69 ?_
    refine tv_icmp_gt (tgt := 90) dTC_settleBuilt_72 (by decide) (fun c72 => absurd c72 (nI_nlt (by omega) (by omega))) (fun c72 => ?_)
    refine tv_iload_n dTC_settleBuilt_75 rfl rfl ?_
    refine tv_if_eq (tgt := 90) dTC_settleBuilt_76 (by decide) (fun c76 => ?_) (fun c76 => ?_)
    · have e76 := tc_b2_0.mp c76
      exact tv_vret dTC_settleBuilt_90 rfl hr (by rw [hh, tc_pass_f e76])
    · refine tv_aload_n dTC_settleBuilt_79 rfl rfl ?_
      refine tv_callV0r kTC_161 (by decide) (Nat.le_of_ble_eq_true rfl) ⟨rfl, rfl⟩ rfl (cc_growBuilt a.1 hI) ⟨Nat.zero_le _, Nat.zero_le _⟩ dTC_settleBuilt_80 ?_
      refine tv_istN_1 dTC_settleBuilt_83 (by decide) ?_
      refine tv_iinc_2 dTC_settleBuilt_84 (by decide) (nI_1 p) ?_
      refine tv_goto (tgt := 67) dTC_settleBuilt_87 (by decide) ?_
      exact ih (p + 1) (tc_grow a.1) (tc_I_of hI (tc_grow_k a.1).1 (tc_grow_k a.1).2) (by rw [(tc_grow_k a.1).1]; omega) hr (by rw [hh, tc_pass_t (tc_b2_n.mp c76)])
set_option maxHeartbeats 4000000 in
set_option maxRecDepth 100000 in
theorem cc_settleBuilt (σ : tcS) (hI : tc_I σ) : tc_M yTC_settleBuilt cTC_settleBuilt 3 (none) 3 [.inr (some 0)] (tc_hC σ, none, tc_hC (tc_settle σ), 0, 0) := by
  refine tc_met (by decide) (Nat.le_of_ble_eq_true rfl) (Nat.le_of_eq tc_hC_len) rfl ?_
  refine tv_iconst (v := 0) dTC_settleBuilt_0 (by decide) ?_
  refine tv_istN_1 dTC_settleBuilt_1 (by decide) ?_
  refine cl_settleBuilt_2 (σ.2.2.2 1) 0 σ hI (by omega) ?_
  have hk := tc_up_k1 tc_i0_k (σ.2.2.2 1) 0 σ
  generalize hτ : tc_up tc_i0 (σ.2.2.2 1) 0 σ = τ at hk ⊢
  have hI1 : tc_I τ := tc_I_of hI hk.1 hk.2
  refine tv_aload_n dTC_settleBuilt_55 rfl rfl ?_
  refine gTC_70 rfl dTC_settleBuilt_56 ?_
  refine tv_iconst (v := 0) dTC_settleBuilt_59 (by decide) ?_
  refine tv_callS2v kTC_76 (by decide) (Nat.le_of_ble_eq_true rfl) ⟨rfl, rfl⟩ (cc_fill (h0 := tc_hC τ) (q := 19) (m := 8) (f := τ.1 8) (v := 0) (by decide) rfl) ⟨Nat.zero_le _, Nat.zero_le _⟩ dTC_settleBuilt_60 ?_
  refine tv_eq (h' := tc_hC (tc_s1 τ 8 (tc_fill 8 0 (τ.1 8)))) ?_ rfl rfl rfl
  refine tv_iconst (v := 1) dTC_settleBuilt_63 (by decide) ?_
  refine tv_istN_1 dTC_settleBuilt_64 (by decide) ?_
  refine tv_iconst (v := 0) dTC_settleBuilt_65 (by decide) ?_
  refine tv_istN_2 dTC_settleBuilt_66 (by decide) ?_
  exact cl_settleBuilt_67 (τ.2.2.2 1 + 1) 0 (tc_s1 τ 8 (tc_fill 8 0 (τ.1 8)), true) (tc_I_of hI1 rfl rfl) (by show 0 + _ = τ.2.2.2 1 + 1; omega) rfl (by show tc_hC (tc_settle σ) = _; unfold tc_settle; rw [hτ, hk.1])
