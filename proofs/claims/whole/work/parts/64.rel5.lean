/-! CHOOSING, the rest -/
theorem tr_ts {k ho g : Nat} {σ τ : tcS} (h : tr_W σ τ) (hh : ho < σ.2.2.2 0) (hg : g < σ.2.2.2 0) (hR : σ.2.2.2 4 + tm_cn (σ.2.1 0) (σ.2.1 1) k (σ.2.2.2 1) 0 ≤ 144) :
    (tm_fg k ho g (τ.2.2.2 1) 0 τ).1 = (tc_fg k ho g (σ.2.2.2 1) 0 σ).1 ∧ tr_W (tc_ts ho g k σ) (tm_ts ho g k τ) ∧ (tc_ts ho g k σ).2.2.2 4 ≤ σ.2.2.2 4 + tm_cn (σ.2.1 0) (σ.2.1 1) k (σ.2.2.2 1) 0 := by
  have e1 := h.1.2.2.1 1 (by omega)
  obtain ⟨f1, f2, f3⟩ := tr_fg (k := k) (ho := ho) (g := g) (σ.2.2.2 1) 0 h (by omega) hh hg hR
  unfold tm_ts tc_ts
  rw [e1, f1]
  exact ⟨rfl, tr_set1 f2 k _, f3⟩
theorem tr_sm_same {ho g k : Nat} {σ : tcS} : ∀ n i, tm_sm (tc_ts ho g k σ) n i = tm_sm σ n i := by
  have hs := tc_fg_same (k := k) (h := ho) (g := g) (σ.2.2.2 1) 0 σ
  have e1 : (tc_ts ho g k σ).2.1 = σ.2.1 := hs.1
  have e2 : (tc_ts ho g k σ).2.2.2 1 = σ.2.2.2 1 := hs.2.2.2.1
  intro n
  induction n with
  | zero => intro i; rfl
  | succ n ih =>
    intro i
    unfold tm_sm
    rw [ih, e1, e2]
theorem tr_tt {ho g : Nat} : ∀ (n i : Nat) {σ τ : tcS}, tr_W σ τ → i + n ≤ σ.2.2.2 3 → ho < σ.2.2.2 0 → g < σ.2.2.2 0 → σ.2.2.2 4 + tm_sm σ n i ≤ 144 →
    (tm_tt ho g n i τ).1 = (tc_tt ho g n i σ).1 ∧ tr_W (tc_tt ho g n i σ).2 (tm_tt ho g n i τ).2 ∧ (tc_tt ho g n i σ).2.2.2.2 4 ≤ σ.2.2.2 4 + tm_sm σ n i
  | 0, _, _, _, h, _, _, _, _ => ⟨rfl, h, Nat.le_add_right _ _⟩
  | n + 1, i, σ, τ, h, hn, hh, hg, hR => by
    have e6 := h.1.2.2.2.2.2.1 i (by omega)
    have hk := h.1.1.2.2.2.2.2.2.2.1 i (by omega)
    have e7 := (h.1.2.2.2.2.2.2.1 _ hk).2.1
    unfold tm_sm at hR ⊢
    obtain ⟨f1, f2, f3⟩ := tr_ts (k := σ.2.1 2 i) h hh hg (by omega)
    unfold tm_tt tc_tt
    rw [e6, f1, e7]
    by_cases q : (tc_fg (σ.2.1 2 i) ho g (σ.2.2.2 1) 0 σ).1 = none ∧ ¬ σ.1 11 (σ.2.1 2 i) = 0
    · rw [if_pos q, if_pos q]
      exact ⟨rfl, f2, Nat.le_trans f3 (by omega)⟩
    · rw [if_neg q, if_neg q]
      have hc := tc_ts_c (h := ho) (g := g) (k := σ.2.1 2 i) (σ := σ)
      have ih := tr_tt (ho := ho) (g := g) n (i + 1) f2 (by rw [hc.2]; omega) (by rw [hc.1]; exact hh) (by rw [hc.1]; exact hg) (by rw [tr_sm_same]; omega)
      rw [tr_sm_same] at ih
      exact ⟨ih.1, ih.2.1, by omega⟩
theorem tr_sm0 {σ : tcS} : ∀ n i, tm_sm (tc_t0 σ) n i = tm_sm σ n i := by
  intro n
  induction n with
  | zero => intro i; rfl
  | succ n ih =>
    intro i
    unfold tm_sm
    rw [ih]
    rfl
theorem tr_take {ho g : Nat} {σ τ : tcS} (h : tr_W σ τ) (hh : ho < σ.2.2.2 0) (hg : g < σ.2.2.2 0) (hR : σ.2.2.2 4 + tm_sm σ (σ.2.2.2 3) 0 ≤ 144) :
    (tm_take ho g τ).1 = (tc_take ho g σ).1 ∧ tr_W (tc_take ho g σ).2 (tm_take ho g τ).2 ∧ (tc_take ho g σ).2.2.2.2 4 ≤ σ.2.2.2 4 + tm_sm σ (σ.2.2.2 3) 0 := by
  have e3 := h.1.2.2.1 3 (by omega)
  have h0 := tr_t0 h
  have r := tr_tt (ho := ho) (g := g) (σ.2.2.2 3) 0 h0 (by show 0 + σ.2.2.2 3 ≤ σ.2.2.2 3; omega) hh hg (by rw [tr_sm0]; exact hR)
  rw [tr_sm0] at r
  unfold tm_take tc_take
  rw [e3]
  exact r
theorem tc_tt_same {ho g : Nat} : ∀ (n i : Nat) (σ : tcS), (tc_tt ho g n i σ).2.2.1 = σ.2.1 ∧ (tc_tt ho g n i σ).2.2.2.2 0 = σ.2.2.2 0 ∧ (tc_tt ho g n i σ).2.2.2.2 1 = σ.2.2.2 1 ∧ (tc_tt ho g n i σ).2.2.2.2 3 = σ.2.2.2 3
  | 0, _, _ => ⟨rfl, rfl, rfl, rfl⟩
  | n + 1, i, σ => by
    have hs := tc_fg_same (k := σ.2.1 2 i) (h := ho) (g := g) (σ.2.2.2 1) 0 σ
    have e : (tc_ts ho g (σ.2.1 2 i) σ).2.1 = σ.2.1 ∧ (tc_ts ho g (σ.2.1 2 i) σ).2.2.2 0 = σ.2.2.2 0 ∧ (tc_ts ho g (σ.2.1 2 i) σ).2.2.2 1 = σ.2.2.2 1 ∧ (tc_ts ho g (σ.2.1 2 i) σ).2.2.2 3 = σ.2.2.2 3 := ⟨hs.1, hs.2.2.1, hs.2.2.2.1, hs.2.2.2.2.2.1⟩
    unfold tc_tt
    split
    · exact e
    · obtain ⟨a, b, c, d⟩ := tc_tt_same (ho := ho) (g := g) n (i + 1) (tc_ts ho g (σ.2.1 2 i) σ)
      exact ⟨a.trans e.1, b.trans e.2.1, c.trans e.2.2.1, d.trans e.2.2.2⟩
theorem tr_sm_cg2 {σ ρ : tcS} (h1 : ρ.2.1 = σ.2.1) (h2 : ρ.2.2.2 1 = σ.2.2.2 1) : ∀ n i, tm_sm ρ n i = tm_sm σ n i := by
  intro n
  induction n with
  | zero => intro i; rfl
  | succ n ih =>
    intro i
    unfold tm_sm
    rw [ih, h1, h2]
theorem tr_ch {g : Nat} : ∀ (n ho : Nat) {σ τ : tcS}, tr_W σ τ → ho + n ≤ σ.2.2.2 0 → g < σ.2.2.2 0 → σ.2.2.2 4 + n * tm_sm σ (σ.2.2.2 3) 0 ≤ 144 →
    (tm_ch g n ho τ).1 = (tc_ch g n ho σ).1 ∧ tr_W (tc_ch g n ho σ).2 (tm_ch g n ho τ).2
  | 0, _, _, _, h, _, _, _ => ⟨rfl, tr_t0 h⟩
  | n + 1, ho, σ, τ, h, hn, hg, hR => by
    rw [Nat.succ_mul] at hR
    obtain ⟨f1, f2, f3⟩ := tr_take (ho := ho) (g := g) h (by omega) hg (by omega)
    unfold tm_ch tc_ch
    rw [f1]
    by_cases q : (tc_take ho g σ).1 = true
    · rw [if_pos q, if_pos q]
      exact ⟨rfl, f2⟩
    · rw [if_neg q, if_neg q]
      have hs := tc_tt_same (ho := ho) (g := g) (σ.2.2.2 3) 0 (tc_t0 σ)
      have e1 : (tc_take ho g σ).2.2.1 = σ.2.1 := hs.1
      have e2 : (tc_take ho g σ).2.2.2.2 0 = σ.2.2.2 0 := hs.2.1
      have e3 : (tc_take ho g σ).2.2.2.2 1 = σ.2.2.2 1 := hs.2.2.1
      have e4 : (tc_take ho g σ).2.2.2.2 3 = σ.2.2.2 3 := hs.2.2.2
      refine tr_ch n (ho + 1) f2 (by rw [e2]; omega) (by rw [e2]; exact hg) ?_
      rw [e4, tr_sm_cg2 e1 e3]
      omega
/-! at most one row a tool on one platform -/
theorem tm_cn_end {kd od : Nat → Nat} {k : Nat} : ∀ (n i : Nat), tm_cn kd od k (n + 1) i = tm_cn kd od k n i + (if kd (od (i + n)) = k then 1 else 0)
  | 0, i => by
    show (if kd (od i) = k then 1 else 0) + 0 = 0 + _
    rw [Nat.add_zero i]
    omega
  | n + 1, i => by
    have ih := tm_cn_end (kd := kd) (od := od) (k := k) n (i + 1)
    unfold tm_cn
    rw [ih, show i + 1 + n = i + (n + 1) by omega]
    unfold tm_cn
    omega
def tr_gs (kd od ask : Nat → Nat) (T : Nat) : Nat → Nat → Nat
  | 0, _ => 0
  | n + 1, i => tm_cn kd od (ask i) T 0 + tr_gs kd od ask T n (i + 1)
theorem tr_gs_sm (τ : tcS) : ∀ n i, tm_sm τ n i = tr_gs (τ.2.1 0) (τ.2.1 1) (τ.2.1 2) (τ.2.2.2 1) n i
  | 0, _ => rfl
  | n + 1, i => by
    unfold tm_sm tr_gs
    rw [tr_gs_sm τ n (i + 1)]
def tr_on (x : Nat) (ask : Nat → Nat) : Nat → Nat → Nat
  | 0, _ => 0
  | n + 1, i => (if x = ask i then 1 else 0) + tr_on x ask n (i + 1)
theorem tr_on_0 {x : Nat} {ask : Nat → Nat} : ∀ (n i : Nat), (∀ j, i ≤ j → j < i + n → ¬ x = ask j) → tr_on x ask n i = 0
  | 0, _, _ => rfl
  | n + 1, i, h => by
    unfold tr_on
    rw [if_neg (h i (Nat.le_refl _) (by omega)), tr_on_0 n (i + 1) (fun j a b => h j (by omega) (by omega))]
theorem tr_on_1 {x : Nat} {ask : Nat → Nat} : ∀ (n i : Nat), (∀ a b, i ≤ a → a < i + n → i ≤ b → b < i + n → ask a = ask b → a = b) → tr_on x ask n i ≤ 1
  | 0, _, _ => Nat.zero_le _
  | n + 1, i, h => by
    unfold tr_on
    by_cases q : x = ask i
    · rw [if_pos q, tr_on_0 n (i + 1) (fun j a b c => by
        have := h i j (Nat.le_refl _) (by omega) (by omega) (by omega) (q.symm.trans c)
        omega)]
      omega
    · rw [if_neg q]
      have := tr_on_1 (x := x) (ask := ask) n (i + 1) (fun a b c d e f g => h a b (by omega) (by omega) (by omega) (by omega) g)
      omega
theorem tr_gs_end {kd od ask : Nat → Nat} {T : Nat} : ∀ (n i : Nat), tr_gs kd od ask (T + 1) n i = tr_gs kd od ask T n i + tr_on (kd (od T)) ask n i
  | 0, _ => rfl
  | n + 1, i => by
    unfold tr_gs tr_on
    rw [tr_gs_end n (i + 1), tm_cn_end, Nat.zero_add]
    omega
theorem tr_gs_le {kd od ask : Nat → Nat} {n : Nat} (h : ∀ a b, a < n → b < n → ask a = ask b → a = b) : ∀ T, tr_gs kd od ask T n 0 ≤ T
  | 0 => by
    have : ∀ n i, tr_gs kd od ask 0 n i = 0 := by
      intro n
      induction n with
      | zero => intro i; rfl
      | succ n ih => intro i; unfold tr_gs; rw [ih]; rfl
    rw [this]
    exact Nat.le_refl _
  | T + 1 => by
    have ih := tr_gs_le (kd := kd) (od := od) h T
    have h1 := tr_on_1 (x := kd (od T)) (ask := ask) n 0 (fun a b _ c _ d e => h a b (by omega) (by omega) e)
    rw [tr_gs_end]
    omega
theorem tr_smC {σ τ : tcS} (h : tr_R σ τ) : tm_sm σ (σ.2.2.2 3) 0 ≤ σ.2.2.2 1 := by
  rw [tr_gs_sm]
  exact tr_gs_le h.2.2.2.2.2.2.2.2.2.2.2.1 _
theorem tr_smM {σ τ : tcS} (h : tr_R σ τ) : τ.2.2.2 0 * tm_sm τ (τ.2.2.2 3) 0 ≤ 144 := by
  have e3 := h.2.2.1 3 (by omega)
  have h1 : tm_sm τ (τ.2.2.2 3) 0 ≤ τ.2.2.2 1 := by
    rw [tr_gs_sm]
    refine tr_gs_le (fun a b ha hb e => ?_) _
    rw [e3] at ha hb
    rw [h.2.2.2.2.2.1 a ha, h.2.2.2.2.2.1 b hb] at e
    exact h.2.2.2.2.2.2.2.2.2.2.2.1 a b ha hb e
  have iP := h.2.1.1
  have iT := h.2.1.2.1
  exact Nat.le_trans (Nat.mul_le_mul iP (Nat.le_trans h1 iT)) (by decide)
theorem tr_rows0 {σ τ : tcS} (h : tr_R σ τ) : tr_R (tc_s4 σ 4 0) (tc_s4 τ 4 0) := by
  obtain ⟨h1, h2, h3, h4, h5, h6, h7, h8, h9, h10, h11, h12, h13, h14⟩ := h
  obtain ⟨iP, iT, iN, iA, iR, iK, iO, iQ, iF, iB⟩ := h1
  obtain ⟨jP, jT, jN, jA, jR, jK, jO, jQ, jF, jB, jW⟩ := h2
  refine ⟨⟨iP, iT, iN, iA, Nat.zero_le _, iK, iO, iQ, iF, iB⟩, ⟨jP, jT, jN, jA, Nat.zero_le _, jK, jO, jQ, jF, jB, jW⟩, fun k hk => ?_, h4, h5, h6, h7, fun t k ht hk => ?_, fun i hi => absurd hi (Nat.not_lt_zero i), h10, h11, h12, h13, h14⟩
  · show va_up τ.2.2.2 4 0 k = va_up σ.2.2.2 4 0 k
    unfold va_up
    split
    · rfl
    · exact h3 k hk
  · show bt (σ.1 4 t) k = _
    rw [h8 t k ht hk]
    refine (tm_wants_cg (τ := τ) ?_ ?_ ?_ t k).symm <;> rfl
/-- settling and setting the rows back may change places -/
theorem tr_W0 {σ τ : tcS} (h : tr_R σ τ) : tr_W (tc_s4 (tc_settle σ) 4 0) (tm_build (tc_s4 τ 4 0)) := by
  have hw := tr_settle_W (tr_rows0 h)
  have hR := tr_rows0 (tr_settle h)
  have key : ∀ k, (tc_settle (tc_s4 σ 4 0)).1 k = (tc_settle σ).1 k := by
    have hf : ∀ (f : Nat → tcS → tcS), (∀ j ρ, f j (tc_s4 ρ 4 0) = tc_s4 (f j ρ) 4 0) → ∀ (n j : Nat) (ρ : tcS), tc_up f n j (tc_s4 ρ 4 0) = tc_s4 (tc_up f n j ρ) 4 0 := by
      intro f hf n
      induction n with
      | zero => intro j ρ; rfl
      | succ n ih => intro j ρ; show tc_up f n (j + 1) (f j (tc_s4 ρ 4 0)) = _; rw [hf, ih]; rfl
    have hg : ∀ (n t : Nat) (a : tcS × Bool), tc_up tc_gb n t (tc_s4 a.1 4 0, a.2) = (tc_s4 (tc_up tc_gb n t a).1 4 0, (tc_up tc_gb n t a).2) := by
      intro n
      induction n with
      | zero => intro t a; rfl
      | succ n ih =>
        intro t a
        have e : tc_gb t (tc_s4 a.1 4 0, a.2) = (tc_s4 (tc_gb t a).1 4 0, (tc_gb t a).2) := by
          unfold tc_gb
          by_cases q : tc_pws (a.1.1 5 t) (a.1.1 4 t) (a.1.1 8) 8 = a.1.1 7 t
          · rw [if_pos q]
            exact if_pos q
          · rw [if_neg q]
            exact if_neg q
        show tc_up tc_gb n (t + 1) (tc_gb t (tc_s4 a.1 4 0, a.2)) = _
        rw [e, ih (t + 1) (tc_gb t a)]
        rfl
    have hgr : ∀ ρ : tcS, tc_grow (tc_s4 ρ 4 0) = (tc_s4 (tc_grow ρ).1 4 0, (tc_grow ρ).2) := fun ρ => hg _ 0 (ρ, false)
    have hp : ∀ (n : Nat) (a : tcS × Bool), tc_pass n (tc_s4 a.1 4 0, a.2) = tc_s4 (tc_pass n a) 4 0 := by
      intro n
      induction n with
      | zero => intro a; rfl
      | succ n ih =>
        intro a
        unfold tc_pass
        by_cases q : a.2 = true
        · rw [if_pos q, if_pos q]
          show tc_pass n (tc_grow (tc_s4 a.1 4 0)) = _
          rw [hgr, ih (tc_grow a.1)]
        · rw [if_neg q, if_neg q]
    have hi : tc_up tc_i0 (σ.2.2.2 1) 0 (tc_s4 σ 4 0) = tc_s4 (tc_up tc_i0 (σ.2.2.2 1) 0 σ) 4 0 := hf tc_i0 (fun _ _ => rfl) _ _ _
    intro k
    have e : tc_settle (tc_s4 σ 4 0) = tc_s4 (tc_settle σ) 4 0 := by
      unfold tc_settle
      show tc_pass (σ.2.2.2 1 + 1) (tc_s1 (tc_up tc_i0 (σ.2.2.2 1) 0 (tc_s4 σ 4 0)) 8 (tc_fill 8 0 ((tc_up tc_i0 (σ.2.2.2 1) 0 (tc_s4 σ 4 0)).1 8)), true) = _
      rw [hi]
      exact hp _ (tc_s1 (tc_up tc_i0 (σ.2.2.2 1) 0 σ) 8 (tc_fill 8 0 ((tc_up tc_i0 (σ.2.2.2 1) 0 σ).1 8)), true)
    rw [e]
    rfl
  have hk1 := tc_settle_k (tc_s4 σ 4 0)
  have hk2 := tc_settle_k σ
  have e2 : (tc_settle (tc_s4 σ 4 0)).2 = (tc_s4 (tc_settle σ) 4 0).2 := by
    rw [hk1.1]
    show (tc_s4 σ 4 0).2 = ((tc_settle σ).2.1, (tc_settle σ).2.2.1, va_up (tc_settle σ).2.2.2 4 0)
    rw [hk2.1]
    rfl
  have e1 : (tc_settle (tc_s4 σ 4 0)).1 = (tc_s4 (tc_settle σ) 4 0).1 := funext key
  have e : tc_settle (tc_s4 σ 4 0) = tc_s4 (tc_settle σ) 4 0 := Prod.ext e1 e2
  rw [e] at hw
  exact hw
theorem tr_choose {σ τ : tcS} (h : tr_R σ τ) {g : Nat} (hg : g < σ.2.2.2 0) : (tm_choose g τ).1 = (tc_choose g σ).1 ∧ tr_R (tc_choose g σ).2 (tm_choose g τ).2 := by
  have hw := tr_W0 h
  have hk := tc_settle_k σ
  have e0 := h.2.2.1 0 (by omega)
  have hsm := tr_smC h
  have iP := h.1.1
  have iT := h.1.2.1
  have r := tr_ch (g := g) (σ.2.2.2 0) 0 hw (by show 0 + _ ≤ (tc_settle σ).2.2.2 0; rw [hk.1]; omega) (by show g < (tc_settle σ).2.2.2 0; rw [hk.1]; exact hg) (by
    rw [tr_sm_cg2 (σ := σ) (ρ := tc_s4 (tc_settle σ) 4 0) (show (tc_settle σ).2.1 = σ.2.1 by rw [hk.1]) (show (tc_settle σ).2.2.2 1 = σ.2.2.2 1 by rw [hk.1])]
    show 0 + σ.2.2.2 0 * tm_sm σ ((tc_settle σ).2.2.2 3) 0 ≤ 144
    rw [hk.1]
    have := Nat.mul_le_mul iP (Nat.le_trans hsm iT)
    omega)
  unfold tm_choose tc_choose
  rw [e0]
  exact ⟨r.1, r.2.1⟩
