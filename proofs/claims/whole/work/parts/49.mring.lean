theorem tv_idiv6 {M : tcM} {K : tcK} {nc ns : Nat} {h : List tcC} {pc : Nat} {L : List (Option tcV)} {st : List tcV} {a : Nat} (hd : decode M.1 pc = .ok (.idiv, 1)) (ha : a < 2 ^ 31) (k : tc_V M K nc ns h (pc + 1) L (.inl (nI (a / 6)) :: st)) : tc_V M K nc ns h pc L (.inl 6 :: .inl (nI a) :: st) := by
  intro l p e s m args below meth c D tg ad0 ad B hG H locs ls hP hD hS hL
  have e1 : nI a / 6 = nI (a / 6) := pk_div (d := 6) ha (by omega) (by omega)
  refine lv_idiv B.1 B.2.1 hd (by decide) ?_
  rw [e1]
  exact k l p e s m args below meth c D tg ad0 ad B hG H locs ls hP hD hS hL
theorem tv_irem6 {M : tcM} {K : tcK} {nc ns : Nat} {h : List tcC} {pc : Nat} {L : List (Option tcV)} {st : List tcV} {a : Nat} (hd : decode M.1 pc = .ok (.irem, 1)) (ha : a < 2 ^ 31) (k : tc_V M K nc ns h (pc + 1) L (.inl (nI (a % 6)) :: st)) : tc_V M K nc ns h pc L (.inl 6 :: .inl (nI a) :: st) := by
  intro l p e s m args below meth c D tg ad0 ad B hG H locs ls hP hD hS hL
  have e1 : nI a - nI a / 6 * 6 = nI (a % 6) := pk_rem (d := 6) ha (by omega) (by omega)
  refine lv_irem B.1 B.2.1 hd (by decide) ?_
  rw [e1]
  exact k l p e s m args below meth c D tg ad0 ad B hG H locs ls hP hD hS hL
def tm_pl (τ : tcS) (k : Nat) : Bool := decide (k / 6 < τ.2.2.2 1) && decide (k % 6 < τ.2.2.2 0)
def tm_ld (τ : tcS) (f t : Nat) : Bool := tc_fit (τ.1 1 (f / 6)) (τ.1 0 (f % 6)) && (tc_fit (τ.1 1 (t / 6)) (τ.1 0 (t % 6)) && (tm_wants τ (f / 6) (τ.2.1 0 (t / 6)) && tc_fit (τ.1 2 (t / 6)) (τ.1 0 (f % 6))))
set_option maxHeartbeats 4000000 in
set_option maxRecDepth 100000 in
theorem mm_isPlace (τ : tcS) (hI : tm_I τ) {k : Nat} (hk : k < 144) : tc_M yMO_isPlace cMO_isPlace 2 (some .boolean) 0 [.inr (some 0), .inl (nI k)] (tm_h τ, some (.inl (tc_b2 (tm_pl τ k))), tm_h τ, 0, 0) := by
  obtain ⟨iP, iT, iN, iA, iR, iK, iO, iQ, iF, iB, iW⟩ := id hI
  refine tc_met (by decide) (Nat.le_of_ble_eq_true rfl) (Nat.le_of_eq tm_len) rfl ?_
  refine tv_iload_n dMO_isPlace_0 rfl rfl ?_
  refine tv_bipush (v := 6) dMO_isPlace_1 (by decide) ?_
  refine tv_idiv6 dMO_isPlace_3 (by omega) ?_
  refine tv_aload_n dMO_isPlace_4 rfl rfl ?_
  refine gMO_75 rfl dMO_isPlace_5 ?_
  refine tv_icmp_ge (tgt := 26) dMO_isPlace_8 (by decide) (fun c8 => ?_) (fun c8 => ?_)
  · have hr := tc_rb (b := tm_pl τ k) (b' := false) (by unfold tm_pl; simp [Nat.not_lt.mpr ((nI_leI (by omega) (by omega)).mp c8)])
    refine tv_iconst (v := 0) dMO_isPlace_26 (by decide) ?_
    exact tv_iret dMO_isPlace_27 rfl rfl hr rfl
  · have d8 : k / 6 < τ.2.2.2 1 := Nat.not_le.mp (fun q => c8 (nI_le q (by omega)))
    refine tv_iload_n dMO_isPlace_11 rfl rfl ?_
    refine tv_bipush (v := 6) dMO_isPlace_12 (by decide) ?_
    refine tv_irem6 dMO_isPlace_14 (by omega) ?_
    refine tv_aload_n dMO_isPlace_15 rfl rfl ?_
    refine gMO_72 rfl dMO_isPlace_16 ?_
    refine tv_icmp_ge (tgt := 26) dMO_isPlace_19 (by decide) (fun c19 => ?_) (fun c19 => ?_)
    · have hr := tc_rb (b := tm_pl τ k) (b' := false) (by unfold tm_pl; simp [Nat.not_lt.mpr ((nI_leI (by omega) (by omega)).mp c19)])
      refine tv_iconst (v := 0) dMO_isPlace_26 (by decide) ?_
      exact tv_iret dMO_isPlace_27 rfl rfl hr rfl
    · have d19 : k % 6 < τ.2.2.2 0 := Nat.not_le.mp (fun q => c19 (nI_le q (by omega)))
      have hr := tc_rb (b := tm_pl τ k) (b' := true) (by unfold tm_pl; simp [d8, d19])
      refine tv_iconst (v := 1) dMO_isPlace_22 (by decide) ?_
      refine tv_goto (tgt := 27) dMO_isPlace_23 (by decide) ?_
      exact tv_iret dMO_isPlace_27 rfl rfl hr rfl
set_option maxHeartbeats 4000000 in
set_option maxRecDepth 100000 in
theorem mm_leads (τ : tcS) (hI : tm_I τ) {f t : Nat} (hf : f < 144) (ht : t < 144) (hu : t / 6 < τ.2.2.2 1) : tc_M yMO_leads cMO_leads 5 (some .boolean) 2 [.inr (some 0), .inl (nI f), .inl (nI t)] (tm_h τ, some (.inl (tc_b2 (tm_ld τ f t))), tm_h τ, 0, 0) := by
  obtain ⟨iP, iT, iN, iA, iR, iK, iO, iQ, iF, iB, iW⟩ := id hI
  refine tc_met (by decide) (Nat.le_of_ble_eq_true rfl) (Nat.le_of_eq tm_len) rfl ?_
  refine tv_iload_n dMO_leads_0 rfl rfl ?_
  refine tv_bipush (v := 6) dMO_leads_1 (by decide) ?_
  refine tv_idiv6 dMO_leads_3 (by omega) ?_
  refine tv_istN_3 dMO_leads_4 (by decide) ?_
  refine tv_iload_n dMO_leads_5 rfl rfl ?_
  refine tv_bipush (v := 6) dMO_leads_6 (by decide) ?_
  refine tv_idiv6 dMO_leads_8 (by omega) ?_
  refine tv_ist_4 dMO_leads_9 (by decide) ?_
  refine tv_aload_n dMO_leads_11 rfl rfl ?_
  refine tv_iload_n dMO_leads_12 rfl rfl ?_
  refine tv_iload_n dMO_leads_13 rfl rfl ?_
  refine tv_bipush (v := 6) dMO_leads_14 (by decide) ?_
  refine tv_irem6 dMO_leads_16 (by omega) ?_
  refine tv_callV2r kMO_112 (by decide) (Nat.le_of_ble_eq_true rfl) ⟨rfl, rfl⟩ rfl (mm_runsOn τ (by omega) (by omega)) ⟨Nat.zero_le _, Nat.zero_le _⟩ dMO_leads_17 ?_
  refine tv_if_eq (tgt := 68) dMO_leads_20 (by decide) (fun c20 => ?_) (fun c20 => ?_)
  · have hr := tc_rb (b := tm_ld τ f t) (b' := false) (by unfold tm_ld; simp [tc_b2_0.mp c20])
    refine tv_iconst (v := 0) dMO_leads_68 (by decide) ?_
    exact tv_iret dMO_leads_69 rfl rfl hr rfl
  · have d20 := tc_b2_n.mp c20
    refine tv_aload_n dMO_leads_23 rfl rfl ?_
    refine tv_iload dMO_leads_24 rfl ?_
    refine tv_iload_n dMO_leads_26 rfl rfl ?_
    refine tv_bipush (v := 6) dMO_leads_27 (by decide) ?_
    refine tv_irem6 dMO_leads_29 (by omega) ?_
    refine tv_callV2r kMO_112 (by decide) (Nat.le_of_ble_eq_true rfl) ⟨rfl, rfl⟩ rfl (mm_runsOn τ (by omega) (by omega)) ⟨Nat.zero_le _, Nat.zero_le _⟩ dMO_leads_30 ?_
    refine tv_if_eq (tgt := 68) dMO_leads_33 (by decide) (fun c33 => ?_) (fun c33 => ?_)
    · have hr := tc_rb (b := tm_ld τ f t) (b' := false) (by unfold tm_ld; simp [tc_b2_0.mp c33])
      refine tv_iconst (v := 0) dMO_leads_68 (by decide) ?_
      exact tv_iret dMO_leads_69 rfl rfl hr rfl
    · have d33 := tc_b2_n.mp c33
      refine tv_aload_n dMO_leads_36 rfl rfl ?_
      refine tv_iload_n dMO_leads_37 rfl rfl ?_
      refine tv_aload_n dMO_leads_38 rfl rfl ?_
      refine gMO_13 rfl dMO_leads_39 ?_
      refine tv_iload dMO_leads_42 rfl ?_
      refine ldM_2 dMO_leads_44 (by omega) ?_
      refine tv_callV2r kMO_88 (by decide) (Nat.le_of_ble_eq_true rfl) ⟨rfl, rfl⟩ rfl (mm_wants τ hI (by omega) (iK _ hu)) ⟨Nat.zero_le _, Nat.zero_le _⟩ dMO_leads_45 ?_
      refine tv_if_eq (tgt := 68) dMO_leads_48 (by decide) (fun c48 => ?_) (fun c48 => ?_)
      · have hr := tc_rb (b := tm_ld τ f t) (b' := false) (by unfold tm_ld; simp [tc_b2_0.mp c48])
        refine tv_iconst (v := 0) dMO_leads_68 (by decide) ?_
        exact tv_iret dMO_leads_69 rfl rfl hr rfl
      · have d48 := tc_b2_n.mp c48
        refine tv_aload_n dMO_leads_51 rfl rfl ?_
        refine tv_iload dMO_leads_52 rfl ?_
        refine tv_iload_n dMO_leads_54 rfl rfl ?_
        refine tv_bipush (v := 6) dMO_leads_55 (by decide) ?_
        refine tv_irem6 dMO_leads_57 (by omega) ?_
        refine tv_callV2r kMO_103 (by decide) (Nat.le_of_ble_eq_true rfl) ⟨rfl, rfl⟩ rfl (mm_makesFor τ (by omega) (by omega)) ⟨Nat.zero_le _, Nat.zero_le _⟩ dMO_leads_58 ?_
        refine tv_if_eq (tgt := 68) dMO_leads_61 (by decide) (fun c61 => ?_) (fun c61 => ?_)
        · have hr := tc_rb (b := tm_ld τ f t) (b' := false) (by unfold tm_ld; simp [tc_b2_0.mp c61])
          refine tv_iconst (v := 0) dMO_leads_68 (by decide) ?_
          exact tv_iret dMO_leads_69 rfl rfl hr rfl
        · have hr := tc_rb (b := tm_ld τ f t) (b' := true) (by unfold tm_ld; simp [d20, d33, d48, tc_b2_n.mp c61])
          refine tv_iconst (v := 1) dMO_leads_64 (by decide) ?_
          refine tv_goto (tgt := 69) dMO_leads_65 (by decide) ?_
          exact tv_iret dMO_leads_69 rfl rfl hr rfl
/-- all but 'met' is as it was -/
def tm_sq (τ ρ : tcS) : Prop := ρ.1 = τ.1 ∧ ρ.2.1 = τ.2.1 ∧ (∀ k, k ≠ 4 → ρ.2.2.1 k = τ.2.2.1 k) ∧ ρ.2.2.2 = τ.2.2.2
theorem tm_sq.rf {τ : tcS} : tm_sq τ τ := ⟨rfl, rfl, fun _ _ => rfl, rfl⟩
theorem tm_sq.tr {τ ρ κ : tcS} (h : tm_sq τ ρ) (k : tm_sq ρ κ) : tm_sq τ κ := ⟨k.1.trans h.1, k.2.1.trans h.2.1, fun j hj => (k.2.2.1 j hj).trans (h.2.2.1 j hj), k.2.2.2.trans h.2.2.2⟩
theorem tm_sq.put (τ : tcS) (f : Nat → Option Nat) : tm_sq τ (tc_s3 τ 4 f) := ⟨rfl, rfl, fun k hk => by
  show va_up τ.2.2.1 4 f k = _
  simp [va_up, hk], rfl⟩
theorem tm_sq.I {τ ρ : tcS} (h : tm_sq τ ρ) (hI : tm_I τ) : tm_I ρ := by
  unfold tm_I
  rw [h.1, h.2.1, h.2.2.1 0 (by omega), h.2.2.2]
  exact hI
def tm_clm (j : Nat) (ρ : tcS) : tcS := tc_s3 ρ 4 (va_up (ρ.2.2.1 4) j none)
def tm_sm4 (t : Nat) (ρ : tcS) : tcS := tc_s3 ρ 4 (va_up (ρ.2.2.1 4) t (some 0))
def tm_cs (f t : Nat) (a : tcS × Bool) : tcS × Bool := if (a.1.2.2.1 4 t).isSome = false ∧ tm_pl a.1 t = true ∧ (a.1.2.2.1 3 t).isSome = false ∧ tm_ld a.1 f t = true then (tm_sm4 t a.1, true) else a
def tm_cf (s f : Nat) (a : tcS × Bool) : tcS × Bool := if (f = s ∨ (a.1.2.2.1 4 f).isSome = true) ∧ tm_pl a.1 f = true then tc_up (tm_cs f) 144 0 a else a
def tm_cp (s : Nat) (ρ : tcS) : tcS × Bool := tc_up (tm_cf s) 144 0 (ρ, false)
def tm_cb (s : Nat) : Nat → tcS × Bool → tcS
  | 0, a => a.1
  | n + 1, a => if a.2 = true ∧ (a.1.2.2.1 4 s).isSome = false then tm_cb s n (tm_cp s a.1) else a.1
def tm_come (s : Nat) (τ : tcS) : tcS := tm_cb s 145 (tc_up tm_clm 144 0 τ, true)
def tm_mq (a b : tcS × Bool) : Prop := tm_sq a.1 b.1 ∧ cz (b.1.2.2.1 4) 144 ≤ cz (a.1.2.2.1 4) 144 ∧ (b.2 = true → a.2 = true ∨ cz (b.1.2.2.1 4) 144 < cz (a.1.2.2.1 4) 144)
theorem tm_mq.rf (a : tcS × Bool) : tm_mq a a := ⟨tm_sq.rf, Nat.le_refl _, Or.inl⟩
theorem tm_mq.tr (a b c : tcS × Bool) (h : tm_mq a b) (k : tm_mq b c) : tm_mq a c := ⟨h.1.tr k.1, Nat.le_trans k.2.1 h.2.1, fun q => by
  rcases k.2.2 q with q | q
  · rcases h.2.2 q with q | q
    · exact Or.inl q
    · exact Or.inr (Nat.lt_of_le_of_lt k.2.1 q)
  · exact Or.inr (Nat.lt_of_lt_of_le q h.2.1)⟩
theorem tm_cs_mq (f : Nat) {t : Nat} (h : t < 144) (a : tcS × Bool) : tm_mq a (tm_cs f t a) := by
  unfold tm_cs
  split
  · rename_i q
    have hn : a.1.2.2.1 4 t = none := by
      cases e : a.1.2.2.1 4 t
      · rfl
      · have := q.1
        rw [e] at this
        cases this
    have hc := cz_up (f := a.1.2.2.1 4) (j := t) (v := 0) (n := 144)
    exact ⟨tm_sq.put _ _, hc.1, fun _ => Or.inr (hc.2 h hn)⟩
  · exact tm_mq.rf a
theorem tm_cs_up (f : Nat) : ∀ (n t : Nat) (a : tcS × Bool), t + n ≤ 144 → tm_mq a (tc_up (tm_cs f) n t a)
  | 0, _, a, _ => tm_mq.rf a
  | n + 1, t, a, h => tm_mq.tr _ _ _ (tm_cs_mq f (by omega) a) (tm_cs_up f n (t + 1) (tm_cs f t a) (by omega))
theorem tm_cf_mq (s f : Nat) (a : tcS × Bool) : tm_mq a (tm_cf s f a) := by
  unfold tm_cf
  split
  · exact tm_cs_up f 144 0 a (by omega)
  · exact tm_mq.rf a
theorem tm_cf_up (s : Nat) (n f : Nat) (a : tcS × Bool) : tm_mq a (tc_up (tm_cf s) n f a) := tc_up_rel (R := tm_mq) tm_mq.rf tm_mq.tr (tm_cf_mq s) n f a
theorem tm_clm_sq : ∀ (n j : Nat) (ρ : tcS), tm_sq ρ (tc_up tm_clm n j ρ) := tc_up_rel (R := tm_sq) (fun _ => tm_sq.rf) (fun _ _ _ h k => h.tr k) (fun j a => tm_sq.put a _)
theorem tm_cb_sq (s : Nat) : ∀ (n : Nat) (a : tcS × Bool), tm_sq a.1 (tm_cb s n a)
  | 0, _ => tm_sq.rf
  | n + 1, a => by
    unfold tm_cb
    split
    · exact tm_sq.tr (tm_cf_up s 144 0 (a.1, false)).1 (tm_cb_sq s n (tm_cp s a.1))
    · exact tm_sq.rf
theorem tm_come_sq (s : Nat) (τ : tcS) : tm_sq τ (tm_come s τ) := (tm_clm_sq 144 0 τ).tr (tm_cb_sq s 145 (tc_up tm_clm 144 0 τ, true))
set_option maxHeartbeats 4000000 in
set_option maxRecDepth 100000 in
theorem ml_comesBack_2 {s : Nat} {K : tcK} : ∀ (n : Nat) (j : Nat) (ρ : tcS), j + n = 144 → tc_V (cMO_comesBack, 5, yMO_comesBack.cls, some .boolean, 3, yMO_comesBack.name) K 0 0 (tm_h (tc_up tm_clm n j ρ)) 24 [some (.inr (some 0)), some (.inl (nI s)), none, none, none] [] → tc_V (cMO_comesBack, 5, yMO_comesBack.cls, some .boolean, 3, yMO_comesBack.name) K 0 0 (tm_h ρ) 2 [some (.inr (some 0)), some (.inl (nI s)), some (.inl (nI j)), none, none] [] := by
  intro n
  induction n with
  | zero =>
    intro j ρ hj hx
    refine tv_iload_n dMO_comesBack_2 rfl rfl ?_
    refine tv_aload_n dMO_comesBack_3 rfl rfl ?_
    refine gMO_53 rfl dMO_comesBack_4 ?_
    refine lenM_15 dMO_comesBack_7 ?_
    refine tv_icmp_ge (tgt := 24) dMO_comesBack_8 (by decide) (fun c8 => ?_) (fun c8 => absurd (nI_le (a := 144) (b := j) (by omega) (by omega)) c8)
    refine tv_fg_2 ?_
    exact hx
  | succ n ih =>
    intro j ρ hj hx
    refine tv_iload_n dMO_comesBack_2 rfl rfl ?_
    refine tv_aload_n dMO_comesBack_3 rfl rfl ?_
    refine gMO_53 rfl dMO_comesBack_4 ?_
    refine lenM_15 dMO_comesBack_7 ?_
    refine tv_icmp_ge (tgt := 24) dMO_comesBack_8 (by decide) (fun c8 => absurd c8 (nI_ge (a := j) (b := 144) (by omega) (by omega))) (fun c8 => ?_)
    refine tv_aload_n dMO_comesBack_11 rfl rfl ?_
    refine gMO_53 rfl dMO_comesBack_12 ?_
    refine tv_iload_n dMO_comesBack_15 rfl rfl ?_
    refine tv_iconst (v := 0) dMO_comesBack_16 (by decide) ?_
    refine stM_15 none dMO_comesBack_17 (by omega) ?_
    refine tv_iinc_2 dMO_comesBack_18 (by decide) (nI_1 j) ?_
    refine tv_goto (tgt := 2) dMO_comesBack_21 (by decide) ?_
    exact ih (j + 1) (tm_clm j ρ) (by omega) hx
set_option maxHeartbeats 4000000 in
set_option maxRecDepth 100000 in
theorem ml_comesBack_80 {s f : Nat} (hf : f < 144) {K : tcK} : ∀ (n : Nat) (t : Nat) (a : tcS × Bool), tm_I a.1 → t + n = 144 → tc_V (cMO_comesBack, 5, yMO_comesBack.cls, some .boolean, 3, yMO_comesBack.name) K 0 0 (tm_h (tc_up (tm_cs f) n t a).1) 148 [some (.inr (some 0)), some (.inl (nI s)), some (.inl (tc_b2 (tc_up (tm_cs f) n t a).2)), some (.inl (nI f)), none] [] → tc_V (cMO_comesBack, 5, yMO_comesBack.cls, some .boolean, 3, yMO_comesBack.name) K 0 0 (tm_h a.1) 80 [some (.inr (some 0)), some (.inl (nI s)), some (.inl (tc_b2 a.2)), some (.inl (nI f)), some (.inl (nI t))] [] := by
  intro n
  induction n with
  | zero =>
    intro t a hI ht hx
    refine tv_iload dMO_comesBack_80 rfl ?_
    refine tv_aload_n dMO_comesBack_82 rfl rfl ?_
    refine gMO_53 rfl dMO_comesBack_83 ?_
    refine lenM_15 dMO_comesBack_86 ?_
    refine tv_icmp_ge (tgt := 148) dMO_comesBack_87 (by decide) (fun c87 => ?_) (fun c87 => absurd (nI_le (a := 144) (b := t) (by omega) (by omega)) c87)
    refine tv_fg_4 ?_
    exact hx
  | succ n ih =>
    intro t a hI ht hx
    refine tv_iload dMO_comesBack_80 rfl ?_
    refine tv_aload_n dMO_comesBack_82 rfl rfl ?_
    refine gMO_53 rfl dMO_comesBack_83 ?_
    refine lenM_15 dMO_comesBack_86 ?_
    refine tv_icmp_ge (tgt := 148) dMO_comesBack_87 (by decide) (fun c87 => absurd c87 (nI_ge (a := t) (b := 144) (by omega) (by omega))) (fun c87 => ?_)
    refine tv_aload_n dMO_comesBack_90 rfl rfl ?_
    refine gMO_53 rfl dMO_comesBack_91 ?_
    refine tv_iload dMO_comesBack_94 rfl ?_
    refine ldM_15 dMO_comesBack_96 (by omega) ?_
    refine tv_if_ne (tgt := 142) dMO_comesBack_97 (by decide) (fun c97 => ?_) (fun c97 => ?_)
    · have e1 : tm_cs f t a = a := by unfold tm_cs; rw [if_neg (fun q => by have := q.1; rw [tc_b2_n.mp c97] at this; cases this)]
      have h9 := ih (t + 1) a hI (by omega) (by rw [← e1]; exact hx)
      refine tv_iinc_4 dMO_comesBack_142 (by decide) (nI_1 t) ?_
      refine tv_goto (tgt := 80) dMO_comesBack_145 (by decide) ?_
      exact h9
    · have d97 := tc_b2_0.mp c97
      refine tv_aload_n dMO_comesBack_100 rfl rfl ?_
      refine tv_iload dMO_comesBack_101 rfl ?_
      refine tv_callV1r kMO_141 (by decide) (Nat.le_of_ble_eq_true rfl) ⟨rfl, rfl⟩ rfl (mm_isPlace a.1 hI (by omega)) ⟨Nat.zero_le _, Nat.zero_le _⟩ dMO_comesBack_103 ?_
      refine tv_if_eq (tgt := 142) dMO_comesBack_106 (by decide) (fun c106 => ?_) (fun c106 => ?_)
      · have e1 : tm_cs f t a = a := by unfold tm_cs; rw [if_neg (fun q => by have := q.2.1; rw [tc_b2_0.mp c106] at this; cases this)]
        have h9 := ih (t + 1) a hI (by omega) (by rw [← e1]; exact hx)
        refine tv_iinc_4 dMO_comesBack_142 (by decide) (nI_1 t) ?_
        refine tv_goto (tgt := 80) dMO_comesBack_145 (by decide) ?_
        exact h9
      · have d106 := tc_b2_n.mp c106
        have hpl : t / 6 < a.1.2.2.2 1 := by
          unfold tm_pl at d106
          rw [Bool.and_eq_true, decide_eq_true_eq] at d106
          exact d106.1
        refine tv_aload_n dMO_comesBack_109 rfl rfl ?_
        refine gMO_50 rfl dMO_comesBack_110 ?_
        refine tv_iload dMO_comesBack_113 rfl ?_
        refine ldM_14 dMO_comesBack_115 (by omega) ?_
        refine tv_if_ne (tgt := 142) dMO_comesBack_116 (by decide) (fun c116 => ?_) (fun c116 => ?_)
        · have e1 : tm_cs f t a = a := by unfold tm_cs; rw [if_neg (fun q => by have := q.2.2.1; rw [tc_b2_n.mp c116] at this; cases this)]
          have h9 := ih (t + 1) a hI (by omega) (by rw [← e1]; exact hx)
          refine tv_iinc_4 dMO_comesBack_142 (by decide) (nI_1 t) ?_
          refine tv_goto (tgt := 80) dMO_comesBack_145 (by decide) ?_
          exact h9
        · have d116 := tc_b2_0.mp c116
          refine tv_aload_n dMO_comesBack_119 rfl rfl ?_
          refine tv_iload_n dMO_comesBack_120 rfl rfl ?_
          refine tv_iload dMO_comesBack_121 rfl ?_
          refine tv_callV2r kMO_144 (by decide) (Nat.le_of_ble_eq_true rfl) ⟨rfl, rfl⟩ rfl (mm_leads a.1 hI hf (by omega) hpl) ⟨Nat.zero_le _, Nat.zero_le _⟩ dMO_comesBack_123 ?_
          refine tv_if_ne (tgt := 132) dMO_comesBack_126 (by decide) (fun c126 => ?_) (fun c126 => ?_)
          · have e1 : tm_cs f t a = (tm_sm4 t a.1, true) := by unfold tm_cs; rw [if_pos ⟨d97, d106, d116, tc_b2_n.mp c126⟩]
            have h9 := ih (t + 1) (tm_sm4 t a.1, true) ((tm_sq.put _ _).I hI) (by omega) (by rw [← e1]; exact hx)
            refine tv_aload_n dMO_comesBack_132 rfl rfl ?_
            refine gMO_53 rfl dMO_comesBack_133 ?_
            refine tv_iload dMO_comesBack_136 rfl ?_
            refine tv_iconst (v := 1) dMO_comesBack_138 (by decide) ?_
            refine stM_15 (some 0) dMO_comesBack_139 (by omega) ?_
            refine tv_eq (h' := tm_h (tm_sm4 t a.1)) ?_ rfl rfl rfl
            refine tv_iconst (v := 1) dMO_comesBack_140 (by decide) ?_
            refine tv_istN_2 dMO_comesBack_141 (by decide) ?_
            refine tv_iinc_4 dMO_comesBack_142 (by decide) (nI_1 t) ?_
            refine tv_goto (tgt := 80) dMO_comesBack_145 (by decide) ?_
            exact h9
          · have e1 : tm_cs f t a = a := by unfold tm_cs; rw [if_neg (fun q => by have := q.2.2.2; rw [tc_b2_0.mp c126] at this; cases this)]
            have h9 := ih (t + 1) a hI (by omega) (by rw [← e1]; exact hx)
            refine tv_goto (tgt := 142) dMO_comesBack_129 (by decide) ?_
            refine tv_iinc_4 dMO_comesBack_142 (by decide) (nI_1 t) ?_
            refine tv_goto (tgt := 80) dMO_comesBack_145 (by decide) ?_
            exact h9
set_option maxHeartbeats 4000000 in
set_option maxRecDepth 100000 in
theorem ml_comesBack_43 {s : Nat} (hs : s < 144) {K : tcK} : ∀ (n : Nat) (f : Nat) (a : tcS × Bool), tm_I a.1 → f + n = 144 → tc_V (cMO_comesBack, 5, yMO_comesBack.cls, some .boolean, 3, yMO_comesBack.name) K 0 0 (tm_h (tc_up (tm_cf s) n f a).1) 26 [some (.inr (some 0)), some (.inl (nI s)), some (.inl (tc_b2 (tc_up (tm_cf s) n f a).2)), none, none] [] → tc_V (cMO_comesBack, 5, yMO_comesBack.cls, some .boolean, 3, yMO_comesBack.name) K 0 0 (tm_h a.1) 43 [some (.inr (some 0)), some (.inl (nI s)), some (.inl (tc_b2 a.2)), some (.inl (nI f)), none] [] := by
  intro n
  induction n with
  | zero =>
    intro f a hI hf hx
    refine tv_iload_n dMO_comesBack_43 rfl rfl ?_
    refine tv_aload_n dMO_comesBack_44 rfl rfl ?_
    refine gMO_53 rfl dMO_comesBack_45 ?_
    refine lenM_15 dMO_comesBack_48 ?_
    refine tv_icmp_ge (tgt := 154) dMO_comesBack_49 (by decide) (fun c49 => ?_) (fun c49 => absurd (nI_le (a := 144) (b := f) (by omega) (by omega)) c49)
    refine tv_goto (tgt := 26) dMO_comesBack_154 (by decide) ?_
    refine tv_fg_3 ?_
    exact hx
  | succ n ih =>
    intro f a hI hf hx
    refine tv_iload_n dMO_comesBack_43 rfl rfl ?_
    refine tv_aload_n dMO_comesBack_44 rfl rfl ?_
    refine gMO_53 rfl dMO_comesBack_45 ?_
    refine lenM_15 dMO_comesBack_48 ?_
    refine tv_icmp_ge (tgt := 154) dMO_comesBack_49 (by decide) (fun c49 => absurd c49 (nI_ge (a := f) (b := 144) (by omega) (by omega))) (fun c49 => ?_)
    refine tv_iload_n dMO_comesBack_52 rfl rfl ?_
    refine tv_iload_n dMO_comesBack_53 rfl rfl ?_
    refine tv_icmp_eq (tgt := 66) dMO_comesBack_54 (by decide) (fun c54 => ?_) (fun c54 => ?_)
    · have d66 : f = s ∨ (a.1.2.2.1 4 f).isSome = true := Or.inl ((nI_eq (by omega) (by omega)).mp c54)
      refine tv_aload_n dMO_comesBack_66 rfl rfl ?_
      refine tv_iload_n dMO_comesBack_67 rfl rfl ?_
      refine tv_callV1r kMO_141 (by decide) (Nat.le_of_ble_eq_true rfl) ⟨rfl, rfl⟩ rfl (mm_isPlace a.1 hI (by omega)) ⟨Nat.zero_le _, Nat.zero_le _⟩ dMO_comesBack_68 ?_
      refine tv_if_ne (tgt := 77) dMO_comesBack_71 (by decide) (fun c71 => ?_) (fun c71 => ?_)
      · refine tv_iconst (v := 0) dMO_comesBack_77 (by decide) ?_
        refine tv_ist_4 dMO_comesBack_78 (by decide) ?_
        refine ml_comesBack_80 (by omega) 144 0 a hI rfl ?_
        have e1 : tm_cf s f a = tc_up (tm_cs f) 144 0 a := by unfold tm_cf; rw [if_pos ⟨d66, tc_b2_n.mp c71⟩]
        rw [← e1]
        have hm := tm_cf_mq s f a
        have h9 := ih (f + 1) (tm_cf s f a) (hm.1.I hI) (by omega) hx
        refine tv_iinc_3 dMO_comesBack_148 (by decide) (nI_1 f) ?_
        refine tv_goto (tgt := 43) dMO_comesBack_151 (by decide) ?_
        exact h9
      · have e1 : tm_cf s f a = a := by unfold tm_cf; rw [if_neg (fun q => by have := q.2; rw [tc_b2_0.mp c71] at this; cases this)]
        have h9 := ih (f + 1) a hI (by omega) (by rw [← e1]; exact hx)
        refine tv_goto (tgt := 148) dMO_comesBack_74 (by decide) ?_
        refine tv_iinc_3 dMO_comesBack_148 (by decide) (nI_1 f) ?_
        refine tv_goto (tgt := 43) dMO_comesBack_151 (by decide) ?_
        exact h9
    · have d54 : ¬ f = s := fun q => c54 (by rw [q])
      refine tv_aload_n dMO_comesBack_57 rfl rfl ?_
      refine gMO_53 rfl dMO_comesBack_58 ?_
      refine tv_iload_n dMO_comesBack_61 rfl rfl ?_
      refine ldM_15 dMO_comesBack_62 (by omega) ?_
      refine tv_if_eq (tgt := 148) dMO_comesBack_63 (by decide) (fun c63 => ?_) (fun c63 => ?_)
      · have e1 : tm_cf s f a = a := by unfold tm_cf; rw [if_neg (fun q => q.1.elim d54 (fun q => by rw [tc_b2_0.mp c63] at q; cases q))]
        have h9 := ih (f + 1) a hI (by omega) (by rw [← e1]; exact hx)
        refine tv_iinc_3 dMO_comesBack_148 (by decide) (nI_1 f) ?_
        refine tv_goto (tgt := 43) dMO_comesBack_151 (by decide) ?_
        exact h9
      · have d66 : f = s ∨ (a.1.2.2.1 4 f).isSome = true := Or.inr (tc_b2_n.mp c63)
        refine tv_aload_n dMO_comesBack_66 rfl rfl ?_
        refine tv_iload_n dMO_comesBack_67 rfl rfl ?_
        refine tv_callV1r kMO_141 (by decide) (Nat.le_of_ble_eq_true rfl) ⟨rfl, rfl⟩ rfl (mm_isPlace a.1 hI (by omega)) ⟨Nat.zero_le _, Nat.zero_le _⟩ dMO_comesBack_68 ?_
        refine tv_if_ne (tgt := 77) dMO_comesBack_71 (by decide) (fun c71 => ?_) (fun c71 => ?_)
        · refine tv_iconst (v := 0) dMO_comesBack_77 (by decide) ?_
          refine tv_ist_4 dMO_comesBack_78 (by decide) ?_
          refine ml_comesBack_80 (by omega) 144 0 a hI rfl ?_
          have e1 : tm_cf s f a = tc_up (tm_cs f) 144 0 a := by unfold tm_cf; rw [if_pos ⟨d66, tc_b2_n.mp c71⟩]
          rw [← e1]
          have hm := tm_cf_mq s f a
          have h9 := ih (f + 1) (tm_cf s f a) (hm.1.I hI) (by omega) hx
          refine tv_iinc_3 dMO_comesBack_148 (by decide) (nI_1 f) ?_
          refine tv_goto (tgt := 43) dMO_comesBack_151 (by decide) ?_
          exact h9
        · have e1 : tm_cf s f a = a := by unfold tm_cf; rw [if_neg (fun q => by have := q.2; rw [tc_b2_0.mp c71] at this; cases this)]
          have h9 := ih (f + 1) a hI (by omega) (by rw [← e1]; exact hx)
          refine tv_goto (tgt := 148) dMO_comesBack_74 (by decide) ?_
          refine tv_iinc_3 dMO_comesBack_148 (by decide) (nI_1 f) ?_
          refine tv_goto (tgt := 43) dMO_comesBack_151 (by decide) ?_
          exact h9
set_option maxHeartbeats 4000000 in
set_option maxRecDepth 100000 in
theorem ml_comesBack_26 {s : Nat} (hs : s < 144) {K : tcK} : ∀ (n : Nat) (a : tcS × Bool), tm_I a.1 → (a.2 = true → cz (a.1.2.2.1 4) 144 < n) → K.2.1 = some (.inl (tc_b2 ((tm_cb s n a).2.2.1 4 s).isSome)) → K.2.2.1 = tm_h (tm_cb s n a) → tc_V (cMO_comesBack, 5, yMO_comesBack.cls, some .boolean, 3, yMO_comesBack.name) K 0 0 (tm_h a.1) 26 [some (.inr (some 0)), some (.inl (nI s)), some (.inl (tc_b2 a.2)), none, none] [] := by
  intro n
  induction n with
  | zero =>
    intro a hI hz hr hh
    refine tv_iload_n dMO_comesBack_26 rfl rfl ?_
    refine tv_if_eq (tgt := 157) dMO_comesBack_27 (by decide) (fun c27 => ?_) (fun c27 => absurd (hz (tc_b2_n.mp c27)) (by omega))
    refine tv_aload_n dMO_comesBack_157 rfl rfl ?_
    refine gMO_53 rfl dMO_comesBack_158 ?_
    refine tv_iload_n dMO_comesBack_161 rfl rfl ?_
    refine ldM_15 dMO_comesBack_162 hs ?_
    exact tv_iret dMO_comesBack_163 rfl (by cases (a.1.2.2.1 4 s).isSome <;> rfl) hr hh
  | succ n ih =>
    intro a hI hz hr hh
    refine tv_iload_n dMO_comesBack_26 rfl rfl ?_
    refine tv_if_eq (tgt := 157) dMO_comesBack_27 (by decide) (fun c27 => ?_) (fun c27 => ?_)
    · have e1 : tm_cb s (n + 1) a = a.1 := by rw [tm_cb, if_neg (fun q => by have := q.1; rw [tc_b2_0.mp c27] at this; cases this)]
      refine tv_aload_n dMO_comesBack_157 rfl rfl ?_
      refine gMO_53 rfl dMO_comesBack_158 ?_
      refine tv_iload_n dMO_comesBack_161 rfl rfl ?_
      refine ldM_15 dMO_comesBack_162 hs ?_
      exact tv_iret dMO_comesBack_163 rfl (by cases (a.1.2.2.1 4 s).isSome <;> rfl) (by rw [hr, e1]) (by rw [hh, e1])
    · refine tv_aload_n dMO_comesBack_30 rfl rfl ?_
      refine gMO_53 rfl dMO_comesBack_31 ?_
      refine tv_iload_n dMO_comesBack_34 rfl rfl ?_
      refine ldM_15 dMO_comesBack_35 hs ?_
      refine tv_if_ne (tgt := 157) dMO_comesBack_36 (by decide) (fun c36 => ?_) (fun c36 => ?_)
      · have e1 : tm_cb s (n + 1) a = a.1 := by rw [tm_cb, if_neg (fun q => by have := q.2; rw [tc_b2_n.mp c36] at this; cases this)]
        refine tv_aload_n dMO_comesBack_157 rfl rfl ?_
        refine gMO_53 rfl dMO_comesBack_158 ?_
        refine tv_iload_n dMO_comesBack_161 rfl rfl ?_
        refine ldM_15 dMO_comesBack_162 hs ?_
        exact tv_iret dMO_comesBack_163 rfl (by cases (a.1.2.2.1 4 s).isSome <;> rfl) (by rw [hr, e1]) (by rw [hh, e1])
      · refine tv_iconst (v := 0) dMO_comesBack_39 (by decide) ?_
        refine tv_istN_2 dMO_comesBack_40 (by decide) ?_
        refine tv_iconst (v := 0) dMO_comesBack_41 (by decide) ?_
        refine tv_istN_3 dMO_comesBack_42 (by decide) ?_
        refine ml_comesBack_43 hs 144 0 (a.1, false) hI rfl ?_
        have hm := tm_cf_up s 144 0 (a.1, false)
        have e1 : tm_cb s (n + 1) a = tm_cb s n (tm_cp s a.1) := by rw [tm_cb, if_pos ⟨tc_b2_n.mp c27, tc_b2_0.mp c36⟩]
        exact ih (tm_cp s a.1) (hm.1.I hI) (fun q => by
          have h1 := hz (tc_b2_n.mp c27)
          rcases hm.2.2 q with q2 | q2
          · cases q2
          · have q3 : cz ((tm_cp s a.1).1.2.2.1 4) 144 < cz (a.1.2.2.1 4) 144 := q2
            omega) (by rw [hr, e1]) (by rw [hh, e1])
set_option maxHeartbeats 4000000 in
set_option maxRecDepth 100000 in
theorem mm_comesBack (τ : tcS) (hI : tm_I τ) {s : Nat} (hs : s < 144) : tc_M yMO_comesBack cMO_comesBack 5 (some .boolean) 3 [.inr (some 0), .inl (nI s)] (tm_h τ, some (.inl (tc_b2 ((tm_come s τ).2.2.1 4 s).isSome)), tm_h (tm_come s τ), 0, 0) := by
  refine tc_met (by decide) (Nat.le_of_ble_eq_true rfl) (Nat.le_of_eq tm_len) rfl ?_
  refine tv_iconst (v := 0) dMO_comesBack_0 (by decide) ?_
  refine tv_istN_2 dMO_comesBack_1 (by decide) ?_
  refine ml_comesBack_2 144 0 τ rfl ?_
  refine tv_iconst (v := 1) dMO_comesBack_24 (by decide) ?_
  refine tv_istN_2 dMO_comesBack_25 (by decide) ?_
  exact ml_comesBack_26 hs 145 (tc_up tm_clm 144 0 τ, true) ((tm_clm_sq 144 0 τ).I hI) (fun _ => Nat.lt_of_le_of_lt (cz_le _ 144) (by decide)) rfl rfl
