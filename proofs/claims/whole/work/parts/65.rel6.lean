/-! RING -/
theorem tm_pl_sq {τ ρ : tcS} (h : tm_sq τ ρ) (k : Nat) : tm_pl ρ k = tm_pl τ k := by
  unfold tm_pl
  rw [h.2.2.2]
theorem tm_ld_sq {τ ρ : tcS} (h : tm_sq τ ρ) (f t : Nat) : tm_ld ρ f t = tm_ld τ f t := by
  unfold tm_ld
  rw [h.1, h.2.1, tm_wants_cg (τ := τ) (by rw [h.2.1]) (by rw [h.2.1]) (by rw [h.2.2.2])]
/-- a step from a place to a place, neither built -/
def tm_E (τ : tcS) (f t : Nat) : Prop := tm_pl τ f = true ∧ tm_pl τ t = true ∧ (τ.2.2.1 3 t).isSome = false ∧ tm_ld τ f t = true ∧ (τ.2.2.1 3 f).isSome = false
theorem tm_E_sq {τ ρ : tcS} (h : tm_sq τ ρ) : tm_E ρ = tm_E τ := by
  funext f t
  unfold tm_E
  rw [tm_pl_sq h, tm_pl_sq h, h.2.2.1 3 (by omega), tm_ld_sq h]
theorem tm_pl_lt {τ : tcS} (hP : τ.2.2.2 0 ≤ 6) (hT : τ.2.2.2 1 ≤ 24) {k : Nat} (h : tm_pl τ k = true) : k < 144 := by
  unfold tm_pl at h
  rw [Bool.and_eq_true, decide_eq_true_eq, decide_eq_true_eq] at h
  omega
/-- sound -/
def tm_D (τ : tcS) (s : Nat) (ρ : tcS) : Prop := tm_sq τ ρ ∧ ∀ k, k < 144 → (ρ.2.2.1 4 k).isSome = true → rg_tc (tm_E τ) s k
theorem tm_E_nb {τ : tcS} {s k : Nat} (h : rg_tc (tm_E τ) s k) : (τ.2.2.1 3 k).isSome = false :=
  h (fun _ y => (τ.2.2.1 3 y).isSome = false) (fun _ _ q => q.2.2.1) (fun _ _ _ _ q => q)
theorem tm_cs_D {τ : tcS} {s f : Nat} (hs : (τ.2.2.1 3 s).isSome = false) (hf : f = s ∨ rg_tc (tm_E τ) s f) (hp : tm_pl τ f = true) {t : Nat} {a : tcS × Bool} (h : tm_D τ s a.1) : tm_D τ s (tm_cs f t a).1 := by
  unfold tm_cs
  split
  · rename_i q
    refine ⟨h.1.tr (tm_sq.put _ _), fun k hk hm => ?_⟩
    by_cases e : k = t
    · have q1 : tm_pl τ t = true := by rw [← tm_pl_sq h.1]; exact q.2.1
      have q2 : (τ.2.2.1 3 t).isSome = false := by rw [← h.1.2.2.1 3 (by omega)]; exact q.2.2.1
      have q3 : tm_ld τ f t = true := by rw [← tm_ld_sq h.1]; exact q.2.2.2
      rw [e]
      rcases hf with e2 | r
      · rw [e2] at hp q3
        exact rg_e ⟨hp, q1, q2, q3, hs⟩
      · exact rg_t r (rg_e ⟨hp, q1, q2, q3, tm_E_nb r⟩)
    · refine h.2 k hk ?_
      have hm : (va_up (a.1.2.2.1 4) t (some 0) k).isSome = true := hm
      unfold va_up at hm
      rw [if_neg e] at hm
      exact hm
  · exact h
theorem tm_csu_D {τ : tcS} {s f : Nat} (hs : (τ.2.2.1 3 s).isSome = false) (hf : f = s ∨ rg_tc (tm_E τ) s f) (hp : tm_pl τ f = true) : ∀ (n t : Nat) (a : tcS × Bool), tm_D τ s a.1 → tm_D τ s (tc_up (tm_cs f) n t a).1
  | 0, _, _, h => h
  | n + 1, t, a, h => tm_csu_D hs hf hp n (t + 1) (tm_cs f t a) (tm_cs_D hs hf hp h)
theorem tm_cfu_D {τ : tcS} {s : Nat} (hs : (τ.2.2.1 3 s).isSome = false) : ∀ (n f : Nat) (a : tcS × Bool), f + n ≤ 144 → tm_D τ s a.1 → tm_D τ s (tc_up (tm_cf s) n f a).1
  | 0, _, _, _, h => h
  | n + 1, f, a, hn, h => by
    refine tm_cfu_D hs n (f + 1) (tm_cf s f a) (by omega) ?_
    unfold tm_cf
    split
    · rename_i q
      refine tm_csu_D hs ?_ (by rw [← tm_pl_sq h.1]; exact q.2) 144 0 a h
      rcases q.1 with e | e
      · exact Or.inl e
      · exact Or.inr (h.2 f (by omega) e)
    · exact h
theorem tm_cb_D {τ : tcS} {s : Nat} (hs : (τ.2.2.1 3 s).isSome = false) : ∀ (n : Nat) (a : tcS × Bool), tm_D τ s a.1 → tm_D τ s (tm_cb s n a)
  | 0, _, h => h
  | n + 1, a, h => by
    unfold tm_cb
    split
    · exact tm_cb_D hs n (tm_cp s a.1) (tm_cfu_D hs 144 0 (a.1, false) (by omega) h)
    · exact h
/-- closed -/
def tm_cc (ρ : tcS) (f t : Nat) : Prop := (ρ.2.2.1 4 t).isSome = false ∧ tm_pl ρ t = true ∧ (ρ.2.2.1 3 t).isSome = false ∧ tm_ld ρ f t = true
theorem tm_cs_t (f t : Nat) (a : tcS × Bool) (h : a.2 = true) : (tm_cs f t a).2 = true := by
  unfold tm_cs
  split
  · rfl
  · exact h
theorem tm_cf_t (s f : Nat) (a : tcS × Bool) (h : a.2 = true) : (tm_cf s f a).2 = true := by
  unfold tm_cf
  split
  · exact tm_up_t (tm_cs_t f) _ _ _ h
  · exact h
theorem tm_csu_f {f : Nat} : ∀ (n t : Nat) (a : tcS × Bool), (tc_up (tm_cs f) n t a).2 = false → tc_up (tm_cs f) n t a = a ∧ ∀ j, t ≤ j → j < t + n → ¬ tm_cc a.1 f j
  | 0, _, _, _ => ⟨rfl, fun j h1 h2 => absurd h2 (by omega)⟩
  | n + 1, t, a, h => by
    have h0 : (tc_up (tm_cs f) n (t + 1) (tm_cs f t a)).2 = false := h
    by_cases q : tm_cc a.1 f t
    · have e : tm_cs f t a = (tm_sm4 t a.1, true) := by
        exact if_pos q
      rw [e, tm_up_t (tm_cs_t f) n (t + 1) _ rfl] at h0
      cases h0
    · have e : tm_cs f t a = a := by
        exact if_neg q
      rw [e] at h0
      obtain ⟨i1, i2⟩ := tm_csu_f n (t + 1) a h0
      refine ⟨by show tc_up (tm_cs f) n (t + 1) (tm_cs f t a) = a; rw [e]; exact i1, fun j h1 h2 => ?_⟩
      by_cases e2 : j = t
      · rw [e2]
        exact q
      · exact i2 j (by omega) (by omega)
theorem tm_cfu_f {s : Nat} : ∀ (n f : Nat) (a : tcS × Bool), (tc_up (tm_cf s) n f a).2 = false → tc_up (tm_cf s) n f a = a ∧ ∀ g t, f ≤ g → g < f + n → t < 144 → (g = s ∨ (a.1.2.2.1 4 g).isSome = true) ∧ tm_pl a.1 g = true → ¬ tm_cc a.1 g t
  | 0, _, _, _ => ⟨rfl, fun u p h1 h2 => absurd h2 (by omega)⟩
  | n + 1, f, a, h => by
    have h0 : (tc_up (tm_cf s) n (f + 1) (tm_cf s f a)).2 = false := h
    have hb : (tm_cf s f a).2 = false := by
      cases e : (tm_cf s f a).2
      · rfl
      · rw [tm_up_t (f := tm_cf s) (tm_cf_t s) n (f + 1) _ e] at h0
        cases h0
    have e : tm_cf s f a = a ∧ ∀ t, t < 144 → (f = s ∨ (a.1.2.2.1 4 f).isSome = true) ∧ tm_pl a.1 f = true → ¬ tm_cc a.1 f t := by
      unfold tm_cf at hb ⊢
      by_cases q : (f = s ∨ (a.1.2.2.1 4 f).isSome = true) ∧ tm_pl a.1 f = true
      · rw [if_pos q] at hb ⊢
        obtain ⟨i1, i2⟩ := tm_csu_f 144 0 a hb
        exact ⟨i1, fun t ht _ => i2 t (Nat.zero_le _) (by omega)⟩
      · rw [if_neg q]
        exact ⟨rfl, fun t _ q2 => absurd q2 q⟩
    rw [e.1] at h0
    obtain ⟨k1, k2⟩ := tm_cfu_f n (f + 1) a h0
    refine ⟨by show tc_up (tm_cf s) n (f + 1) (tm_cf s f a) = a; rw [e.1]; exact k1, fun g t h1 h2 h3 h4 => ?_⟩
    by_cases e2 : g = f
    · rw [e2] at h4 ⊢
      exact e.2 t h3 h4
    · exact k2 g t (by omega) (by omega) h3 h4
def tm_cfix (s : Nat) (ρ : tcS) : Prop := (ρ.2.2.1 4 s).isSome = true ∨ ∀ g t, g < 144 → t < 144 → (g = s ∨ (ρ.2.2.1 4 g).isSome = true) ∧ tm_pl ρ g = true → ¬ tm_cc ρ g t
theorem tm_cb_fix {s : Nat} : ∀ (n : Nat) (a : tcS × Bool), (a.2 = true → cz (a.1.2.2.1 4) 144 < n) → (a.2 = false → tm_cfix s a.1) → tm_cfix s (tm_cb s n a)
  | 0, a, hz, hf => by
    refine hf ?_
    cases e : a.2
    · rfl
    · exact absurd (hz e) (by omega)
  | n + 1, a, hz, hf => by
    unfold tm_cb
    split
    · rename_i q
      have hm : tm_mq (a.1, false) (tm_cp s a.1) := tm_cf_up s 144 0 (a.1, false)
      refine tm_cb_fix n (tm_cp s a.1) (fun q2 => ?_) (fun q2 => ?_)
      · have h1 := hz q.1
        rcases hm.2.2 q2 with q3 | q3
        · cases q3
        · have q4 : cz ((tm_cp s a.1).1.2.2.1 4) 144 < cz (a.1.2.2.1 4) 144 := q3
          omega
      · obtain ⟨k1, k2⟩ := tm_cfu_f 144 0 (a.1, false) q2
        have e : tm_cp s a.1 = (a.1, false) := k1
        rw [e]
        exact Or.inr (fun g t hg ht => k2 g t (Nat.zero_le _) (by omega) ht)
    · rename_i q
      cases e : a.2
      · exact hf e
      · refine Or.inl ?_
        cases e2 : (a.1.2.2.1 4 s).isSome
        · exact absurd ⟨e, e2⟩ q
        · rfl
theorem tm_clm_no : ∀ (n j : Nat) (ρ : tcS) (i : Nat), ((j ≤ i ∧ i < j + n) ∨ ρ.2.2.1 4 i = none) → (tc_up tm_clm n j ρ).2.2.1 4 i = none
  | 0, _, _, i, h => by
    rcases h with h | h
    · omega
    · exact h
  | n + 1, j, ρ, i, h => by
    refine tm_clm_no n (j + 1) (tm_clm j ρ) i ?_
    by_cases e : i = j
    · right
      show va_up (ρ.2.2.1 4) j none i = none
      simp [va_up, e]
    · rcases h with h | h
      · left
        omega
      · right
        show va_up (ρ.2.2.1 4) j none i = none
        simp [va_up, e, h]
theorem tm_come_eq {τ : tcS} (hP : τ.2.2.2 0 ≤ 6) (hT : τ.2.2.2 1 ≤ 24) {s : Nat} (hs : s < 144) (hb : (τ.2.2.1 3 s).isSome = false) : ((tm_come s τ).2.2.1 4 s).isSome = true ↔ rg_tc (tm_E τ) s s := by
  have h0 : tm_D τ s (tc_up tm_clm 144 0 τ) := ⟨tm_clm_sq 144 0 τ, fun k hk h => by
    rw [tm_clm_no 144 0 τ k (Or.inl (by omega))] at h
    cases h⟩
  have hD : tm_D τ s (tm_come s τ) := tm_cb_D hb 145 (tc_up tm_clm 144 0 τ, true) h0
  have hF : tm_cfix s (tm_come s τ) := tm_cb_fix 145 (tc_up tm_clm 144 0 τ, true) (fun _ => Nat.lt_of_le_of_lt (cz_le _ 144) (by decide)) (fun q => by cases q)
  refine ⟨hD.2 s hs, fun h => ?_⟩
  rcases hF with q | q
  · exact q
  · refine h (fun x y => (x = s ∨ ((tm_come s τ).2.2.1 4 x).isSome = true) → ((tm_come s τ).2.2.1 4 y).isSome = true) (fun x y e hx => ?_) (fun x y z h1 h2 hx => h2 (Or.inr (h1 hx))) (Or.inl rfl)
    cases e2 : ((tm_come s τ).2.2.1 4 y).isSome
    · refine absurd ⟨e2, ?_, ?_, ?_⟩ (q x y (tm_pl_lt hP hT e.1) (tm_pl_lt hP hT e.2.1) ⟨hx, by rw [tm_pl_sq hD.1]; exact e.1⟩)
      · rw [tm_pl_sq hD.1]
        exact e.2.1
      · rw [hD.1.2.2.1 3 (by omega)]
        exact e.2.2.1
      · rw [tm_ld_sq hD.1]
        exact e.2.2.2.1
    · rfl
theorem tm_rg_eq {τ : tcS} (hP : τ.2.2.2 0 ≤ 6) (hT : τ.2.2.2 1 ≤ 24) {t : Nat} (ht : t < 24) : ∀ (n p : Nat) (b : Bool) (ρ : tcS), tm_sq τ ρ → p + n ≤ 6 → ((tm_rg t n p b ρ).1 = true ↔ b = true ∨ ∃ j, p ≤ j ∧ j < p + n ∧ tm_bl τ t j = false ∧ rg_tc (tm_E τ) (6 * t + j) (6 * t + j))
  | 0, p, b, ρ, _, _ => ⟨Or.inl, fun h => by
    rcases h with h | ⟨j, h1, h2, _⟩
    · exact h
    · omega⟩
  | n + 1, p, b, ρ, h, hp => by
    unfold tm_rg
    cases b
    · rw [if_neg (by simp)]
      have hbl : tm_bl ρ t p = tm_bl τ t p := by
        unfold tm_bl
        rw [h.2.2.1 3 (by omega)]
      cases q : tm_bl τ t p
      · rw [if_neg (by rw [hbl, q]; simp)]
        have hc := tm_come_eq (τ := ρ) (s := 6 * t + p) (by rw [h.2.2.2]; exact hP) (by rw [h.2.2.2]; exact hT) (by omega) (by rw [h.2.2.1 3 (by omega)]; exact q)
        rw [tm_E_sq h] at hc
        rw [tm_rg_eq hP hT ht n (p + 1) _ _ (h.tr (tm_come_sq _ ρ)) (by omega), hc]
        constructor
        · rintro (r | ⟨j, h1, h2, h3, h4⟩)
          · exact Or.inr ⟨p, Nat.le_refl _, by omega, q, r⟩
          · exact Or.inr ⟨j, by omega, by omega, h3, h4⟩
        · rintro (r | ⟨j, h1, h2, h3, h4⟩)
          · cases r
          · by_cases e : j = p
            · rw [e] at h4
              exact Or.inl h4
            · exact Or.inr ⟨j, by omega, by omega, h3, h4⟩
      · rw [if_pos (by rw [hbl, q]), tm_rg_eq hP hT ht n (p + 1) _ _ h (by omega)]
        constructor
        · rintro (r | ⟨j, h1, h2, h3, h4⟩)
          · cases r
          · exact Or.inr ⟨j, by omega, by omega, h3, h4⟩
        · rintro (r | ⟨j, h1, h2, h3, h4⟩)
          · cases r
          · by_cases e : j = p
            · rw [e, q] at h3
              cases h3
            · exact Or.inr ⟨j, by omega, by omega, h3, h4⟩
    · rw [if_pos rfl]
      exact ⟨fun _ => Or.inl rfl, fun _ => rfl⟩
/-- a ring of places is a ring of tools -/
theorem rg_im {E F : Nat → Nat → Prop} {g : Nat → Nat} (h : ∀ x y, E x y → F (g x) (g y)) {a b : Nat} (k : rg_tc E a b) : rg_tc F (g a) (g b) :=
  k (fun x y => rg_tc F (g x) (g y)) (fun x y q => rg_e (h x y q)) (fun _ _ _ q1 q2 => rg_t q1 q2)
theorem tc_unb_bt {σ : tcS} {t p : Nat} (hp : p < 32) : bt (tc_unb σ t) p = true ↔ bt (σ.1 5 t) p = true ∧ bt (σ.1 7 t) p = false := by
  unfold tc_unb
  rw [b_and, b_xor, b_m1 p hp, Bool.xor_true, Bool.and_eq_true, Bool.not_eq_true']
theorem tr_isr {σ τ : tcS} (h : tr_R σ τ) {t : Nat} (ht : t < σ.2.2.2 1) {ρ : tcS} (hq : tm_sq (tm_build τ) ρ) : (tm_isr t ρ).1 = bt ((tc_leads (tc_settle σ)).1 9 t) t := by
  have hw := tr_settle_W h
  have hk := tc_settle_k σ
  have iP := h.1.1
  have iT := h.1.2.1
  have iK := h.1.2.2.2.2.2.1
  obtain ⟨hJ, hF⟩ := tc_settle_J iP iK
  obtain ⟨hR, hW, _⟩ := hw
  have hI2 := hR.2.1
  have c0 : (tm_build τ).2.2.2 0 = (tc_settle σ).2.2.2 0 := hR.2.2.1 0 (by omega)
  have c1 : (tm_build τ).2.2.2 1 = (tc_settle σ).2.2.2 1 := hR.2.2.1 1 (by omega)
  have d0 : (tc_settle σ).2.2.2 0 = σ.2.2.2 0 := by rw [hk.1]
  have d1 : (tc_settle σ).2.2.2 1 = σ.2.2.2 1 := by rw [hk.1]
  have hu : ∀ a p, a < σ.2.2.2 1 → (bt (tc_unb (tc_settle σ) a) p = true ↔ p < σ.2.2.2 0 ∧ tc_fit ((tm_build τ).1 1 a) ((tm_build τ).1 0 p) = true ∧ tm_bl (tm_build τ) a p = false) := by
    intro a p ha
    constructor
    · intro hb
      have h32 := tc_bt_lt hb
      rw [tc_unb_bt h32, hJ.2.2.1 a p ha] at hb
      obtain ⟨⟨q1, q2⟩, q3⟩ := hb
      have g := hW a p (by omega) (by omega)
      refine ⟨q1, ?_, by rw [← g.2.2]; exact q3⟩
      have := g.1.symm.trans ((hJ.2.2.1 a p ha).mpr ⟨q1, q2⟩)
      rw [(hR.2.2.2.2.1 a (by omega)).1, hR.2.2.2.1 p (by omega)]
      exact this
    · rintro ⟨q1, q2, q3⟩
      have g := hW a p (by omega) (by omega)
      rw [tc_unb_bt (by omega)]
      refine ⟨?_, by rw [g.2.2]; exact q3⟩
      rw [g.1, ← (hR.2.2.2.2.1 a (by omega)).1, ← hR.2.2.2.1 p (by omega)]
      exact q2
  have hm : ∀ b p, b < σ.2.2.2 1 → p < σ.2.2.2 0 → bt ((tc_settle σ).1 6 b) p = tc_fit ((tm_build τ).1 2 b) ((tm_build τ).1 0 p) := by
    intro b p hb hp
    rw [(hW b p (by omega) (by omega)).2.1, ← (hR.2.2.2.2.1 b (by omega)).2.1, ← hR.2.2.2.1 p (by omega)]
  have hn : ∀ a b, a < σ.2.2.2 1 → b < σ.2.2.2 1 → bt ((tc_settle σ).1 4 a) ((tc_settle σ).2.1 0 b) = tm_wants (tm_build τ) a ((tm_build τ).2.1 0 b) := by
    intro a b ha hb
    have e := (hR.2.2.2.2.1 b (by omega)).2.2.2.1
    rw [e]
    exact hR.2.2.2.2.2.2.2.1 a _ (by omega) (hR.1.2.2.2.2.2.1 b (by omega))
  have hs : ∀ a b, bt (tc_steps (tc_settle σ) a) b = true → b < (tc_settle σ).2.2.2 1 := fun a b q => ((tc_steps_bt (by omega)).mp q).1
  refine Bool.eq_iff_iff.mpr ?_
  rw [tc_leads_bt (by omega) hs]
  unfold tm_isr
  rw [tm_rg_eq (τ := tm_build τ) (by omega) (by omega) (by omega) _ 0 false ρ hq (by rw [hq.2.2.2]; omega)]
  rw [hq.2.2.2, c0, d0, d1]
  have hE : ∀ x y, tm_E (tm_build τ) x y ↔ (x / 6 < σ.2.2.2 1 ∧ x % 6 < σ.2.2.2 0) ∧ (y / 6 < σ.2.2.2 1 ∧ y % 6 < σ.2.2.2 0) ∧ tm_bl (tm_build τ) (y / 6) (y % 6) = false ∧ tm_ld (tm_build τ) x y = true ∧ tm_bl (tm_build τ) (x / 6) (x % 6) = false := by
    intro x y
    unfold tm_E tm_pl tm_bl
    rw [c0, c1, d0, d1, Bool.and_eq_true, Bool.and_eq_true, decide_eq_true_eq, decide_eq_true_eq, decide_eq_true_eq, decide_eq_true_eq, Nat.div_add_mod, Nat.div_add_mod]
  constructor
  · rintro (q | ⟨j, _, hj, _, hr⟩)
    · cases q
    · have r := rg_im (g := fun x => x / 6) (F := fun a b => a < σ.2.2.2 1 ∧ bt (tc_steps (tc_settle σ) a) b = true) (fun x y q => ?_) hr
      · have e : (6 * t + j) / 6 = t := by omega
        simp only [e] at r
        exact r
      · obtain ⟨⟨x1, x2⟩, ⟨y1, y2⟩, y3, q1, x3⟩ := (hE x y).mp q
        unfold tm_ld at q1
        rw [Bool.and_eq_true, Bool.and_eq_true, Bool.and_eq_true] at q1
        refine ⟨x1, (tc_steps_bt (by omega)).mpr ⟨by omega, ?_, ⟨x % 6, ?_, (hu _ _ x1).mpr ⟨x2, q1.1, x3⟩⟩, ⟨y % 6, (hu _ _ y1).mpr ⟨y2, q1.2.1, y3⟩⟩⟩⟩
        · rw [hn _ _ x1 y1]
          exact q1.2.2.1
        · rw [hm _ _ y1 x2]
          exact q1.2.2.2
  · intro hr
    refine Or.inr ?_
    have key := hr (fun a b => a < σ.2.2.2 1 ∧ ∃ p, bt (tc_unb (tc_settle σ) a) p = true ∧ ∀ q, bt (tc_unb (tc_settle σ) b) q = true → rg_tc (tm_E (tm_build τ)) (6 * a + p) (6 * b + q)) (by
      intro a b q
      obtain ⟨ha, q⟩ := q
      obtain ⟨hb, q1, ⟨p, q2, q3⟩, _⟩ := (tc_steps_bt (by omega)).mp q
      rw [d1] at hb
      refine ⟨ha, p, q3, fun r hr => rg_e ?_⟩
      have a3 := (hu a p ha).mp q3
      have b3 := (hu b r hb).mp hr
      have e1 : (6 * a + p) / 6 = a := by omega
      have e2 : (6 * a + p) % 6 = p := by omega
      have e3 : (6 * b + r) / 6 = b := by omega
      have e4 : (6 * b + r) % 6 = r := by omega
      rw [hE, e1, e2, e3, e4]
      refine ⟨⟨ha, a3.1⟩, ⟨hb, b3.1⟩, b3.2.2, ?_, a3.2.2⟩
      unfold tm_ld
      rw [e1, e2, e3, e4, a3.2.1, b3.2.1, ← hn a b ha hb, q1, ← hm b p hb a3.1, q2]
      rfl) (by
      intro a b c h1 h2
      obtain ⟨ha, p, p1, p2⟩ := h1
      obtain ⟨hb, q, q1, q2⟩ := h2
      exact ⟨ha, p, p1, fun r hr => rg_t (p2 q q1) (q2 r hr)⟩)
    obtain ⟨_, p, hp, hall⟩ := key
    have hp2 := (hu t p ht).mp hp
    exact ⟨p, Nat.zero_le _, by omega, hp2.2.2, hall p hp⟩
theorem tc_nI_s (b : Nat) : nI (b + 1) = nI b + 1 := by
  unfold nI
  exact Int32.ofNat_add b 1
theorem tr_rF {σ τ : tcS} (h : tr_R σ τ) : ∀ (n t b : Nat) (l i : Int32) (ρ : tcS), t + n = σ.2.2.2 1 → l + nI b = i → tm_sq (tm_build τ) ρ → (tm_rF n t l ρ).1 = tc_ringF (tc_leads (tc_settle σ)) i n t b ∧ tm_sq (tm_build τ) (tm_rF n t l ρ).2
  | 0, _, _, _, _, _, _, _, hq => ⟨rfl, hq⟩
  | n + 1, t, b, l, i, ρ, hn, hl, hq => by
    have e := tr_isr h (t := t) (by omega) hq
    have hq2 := hq.tr (tm_rg_sq t (ρ.2.2.2 0) 0 false ρ)
    unfold tm_rF tc_ringF
    rw [e]
    cases q : bt ((tc_leads (tc_settle σ)).1 9 t) t
    · rw [if_neg (by simp), if_neg (by simp)]
      exact tr_rF h n (t + 1) b l i _ (by omega) hl hq2
    · rw [if_pos rfl, if_pos rfl]
      have hz : l = 0 ↔ nI b = i := by
        constructor
        · intro z
          rw [← hl, z, Int32.zero_add]
        · intro z
          rw [← z] at hl
          have h2 : l + nI b = 0 + nI b := by rw [hl, Int32.zero_add]
          exact (Int32.add_left_inj (nI b)).mp h2
      by_cases z : l = 0
      · rw [if_pos z, if_pos (hz.mp z)]
        exact ⟨rfl, hq2⟩
      · rw [if_neg z, if_neg (fun y => z (hz.mpr y))]
        refine tr_rF h n (t + 1) (b + 1) _ i _ (by omega) ?_ hq2
        rw [tc_nI_s, ← hl, Int32.add_assoc, Int32.add_comm (nI b) 1, ← Int32.add_assoc (-1) 1]
        show l + (0 + nI b) = _
        rw [Int32.zero_add]
theorem tc_leads_keep {σ : tcS} {k : Nat} (h : k ≠ 9) : (tc_leads σ).1 k = σ.1 k := by
  unfold tc_leads
  have hf : ∀ (n j : Nat) (ρ : tcS), (tc_up tc_l2 n j ρ).1 k = ρ.1 k := by
    intro n
    induction n with
    | zero => intro j ρ; rfl
    | succ n ih =>
      intro j ρ
      show (tc_up tc_l2 n (j + 1) (tc_l2 j ρ)).1 k = _
      rw [ih]
      exact tc_l1_keep j k h _ _ _
  rw [hf]
  exact (tc_l0_up _ _ _).1 k h
theorem tr_leads {σ τ : tcS} (h : tr_R σ τ) : tr_R (tc_leads σ) τ := by
  have hk := tc_leads_k σ
  have hI := tc_I_of h.1 hk.1 hk.2
  obtain ⟨h1, h2, h3, h4, h5, h6, h7, h8, h9, h10, h11, h12, h13, h14⟩ := h
  refine ⟨hI, h2, ?_⟩
  rw [hk.1, tc_leads_keep (k := 0) (by omega), tc_leads_keep (k := 1) (by omega), tc_leads_keep (k := 2) (by omega), tc_leads_keep (k := 3) (by omega), tc_leads_keep (k := 4) (by omega), tc_leads_keep (k := 10) (by omega), tc_leads_keep (k := 11) (by omega), tc_leads_keep (k := 12) (by omega)]
  exact ⟨h3, h4, h5, h6, h7, h8, h9, h10, h11, h12, h13, h14⟩
theorem tr_sq {σ τ ρ : tcS} (h : tr_R σ τ) (hq : tm_sq τ ρ) : tr_R σ ρ := by
  have hI := hq.I h.2.1
  obtain ⟨h1, h2, h3, h4, h5, h6, h7, h8, h9, h10, h11, h12, h13, h14⟩ := h
  refine ⟨h1, hI, ?_⟩
  rw [hq.1, hq.2.1, hq.2.2.2, hq.2.2.1 0 (by omega), hq.2.2.1 1 (by omega), hq.2.2.1 2 (by omega)]
  refine ⟨h3, h4, h5, h6, h7, fun t k ht hk2 => ?_, h9, h10, h11, h12, h13, h14⟩
  rw [h8 t k ht hk2]
  exact (tm_wants_cg (τ := τ) (by rw [hq.2.1]) (by rw [hq.2.1]) (by rw [hq.2.2.2]) t k).symm
theorem tr_ring {σ τ : tcS} (h : tr_R σ τ) (i : Int32) : (tm_rF (τ.2.2.2 1) 0 i (tm_build τ)).1 = tc_ringF (tc_leads (tc_settle σ)) i (σ.2.2.2 1) 0 0 ∧ tr_R (tc_leads (tc_settle σ)) (tm_rF (τ.2.2.2 1) 0 i (tm_build τ)).2 := by
  have e1 := h.2.2.1 1 (by omega)
  rw [e1]
  have r := tr_rF h (σ.2.2.2 1) 0 0 i i (tm_build τ) (by omega) (Int32.add_zero i) tm_sq.rf
  exact ⟨r.1, tr_sq (tr_leads (tr_settle h)) r.2⟩
