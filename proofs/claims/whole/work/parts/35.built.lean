/-! BUILT: the least ones, and that the class works them out -/
def bw_cl (T P : Nat) (R Mk nd : Nat → Nat → Bool) (kd : Nat → Nat) (S : Nat → Nat → Prop) : Prop :=
  ∀ t p, t < T → p < P → R t p = true → (∀ k, k < 8 → nd t k = true → ∃ u q, u < T ∧ q < P ∧ kd u = k ∧ Mk u p = true ∧ S u q) → S t p
def bw_B (T P : Nat) (R Mk nd : Nat → Nat → Bool) (kd : Nat → Nat) (t p : Nat) : Prop := t < T ∧ p < P ∧ ∀ S : Nat → Nat → Prop, bw_cl T P R Mk nd kd S → S t p
theorem bw_step {T P : Nat} {R Mk nd : Nat → Nat → Bool} {kd : Nat → Nat} {t p : Nat} (ht : t < T) (hp : p < P) (hR : R t p = true) (h : ∀ k, k < 8 → nd t k = true → ∃ u q, u < T ∧ q < P ∧ kd u = k ∧ Mk u p = true ∧ bw_B T P R Mk nd kd u q) : bw_B T P R Mk nd kd t p := by
  refine ⟨ht, hp, fun S hS => hS t p ht hp hR (fun k hk hn => ?_)⟩
  obtain ⟨u, q, h1, h2, h3, h4, h5⟩ := h k hk hn
  exact ⟨u, q, h1, h2, h3, h4, h5.2.2 S hS⟩
/-- BUILT by the class's own tables -/
def tc_bw (σ : tcS) (t p : Nat) : Prop := bw_B (σ.2.2.2 1) (σ.2.2.2 0) (fun t p => tc_fit (σ.1 1 t) (σ.1 0 p)) (fun t p => tc_fit (σ.1 2 t) (σ.1 0 p)) (fun t k => bt (σ.1 4 t) k) (σ.2.1 0) t p
theorem tc_pws_bt {r nk : Int32} {sup : Nat → Int32} {p : Nat} : ∀ (n : Nat), bt (tc_pws r nk sup n) p = true ↔ bt r p = true ∧ ∀ k, k < n → bt nk k = true → bt (sup k) p = true
  | 0 => by
    refine ⟨fun h => ⟨h, fun k hk => absurd hk (by omega)⟩, fun h => h.1⟩
  | n + 1 => by
    have ih := tc_pws_bt (r := r) (nk := nk) (sup := sup) (p := p) n
    cases e : bt nk n
    · rw [tc_pws_no e, ih]
      refine ⟨fun h => ⟨h.1, fun k hk hn => ?_⟩, fun h => ⟨h.1, fun k hk hn => h.2 k (by omega) hn⟩⟩
      rcases Nat.lt_or_ge k n with q | q
      · exact h.2 k q hn
      · have : k = n := by omega
        subst this
        rw [e] at hn
        cases hn
    · rw [tc_pws_yes e, b_and, Bool.and_eq_true, ih]
      refine ⟨fun h => ⟨h.1.1, fun k hk hn => ?_⟩, fun h => ⟨⟨h.1, fun k hk hn => h.2 k (by omega) hn⟩, h.2 n (by omega) e⟩⟩
      rcases Nat.lt_or_ge k n with q | q
      · exact h.1.2 k q hn
      · have : k = n := by omega
        subst this
        exact h.2
theorem tc_bt_lt {x : Int32} {i : Nat} (h : bt x i = true) : i < 32 := by
  rcases Nat.lt_or_ge i 32 with q | q
  · exact q
  · rw [b_big q] at h
    cases h
theorem tc_nz {x : Int32} : ¬ x = 0 ↔ ∃ i, bt x i = true := by
  constructor
  · intro h
    refine Classical.byContradiction (fun q => h (tc_z.mpr (fun i _ => ?_)))
    cases e : bt x i
    · rfl
    · exact absurd ⟨i, e⟩ q
  · intro ⟨i, hi⟩ h
    rw [h, b_0] at hi
    cases hi
/-- the class's tables while it works the built ones out -/
def tc_J (σ ρ : tcS) : Prop := ρ.2 = σ.2 ∧ ρ.1 4 = σ.1 4 ∧
  (∀ t p, t < σ.2.2.2 1 → (bt (ρ.1 5 t) p = true ↔ p < σ.2.2.2 0 ∧ tc_fit (σ.1 1 t) (σ.1 0 p) = true)) ∧
  (∀ t p, t < σ.2.2.2 1 → (bt (ρ.1 6 t) p = true ↔ p < σ.2.2.2 0 ∧ tc_fit (σ.1 2 t) (σ.1 0 p) = true)) ∧
  (∀ t p, t < σ.2.2.2 1 → bt (ρ.1 7 t) p = true → tc_bw σ t p) ∧
  (∀ k p, k < 8 → bt (ρ.1 8 k) p = true → ∃ u q, u < σ.2.2.2 1 ∧ q < σ.2.2.2 0 ∧ σ.2.1 0 u = k ∧ tc_fit (σ.1 2 u) (σ.1 0 p) = true ∧ tc_bw σ u q) ∧
  (∀ u p, u < σ.2.2.2 1 → ¬ ρ.1 7 u = 0 → bt (ρ.1 6 u) p = true → bt (ρ.1 8 (σ.2.1 0 u)) p = true) ∧
  (∀ t p, t < σ.2.2.2 1 → bt (ρ.1 7 t) p = true → bt (tc_pws (ρ.1 5 t) (ρ.1 4 t) (ρ.1 8) 8) p = true)
/-- no pass changes it -/
def tc_fix (σ ρ : tcS) : Prop := ∀ t, t < σ.2.2.2 1 → tc_pws (ρ.1 5 t) (ρ.1 4 t) (ρ.1 8) 8 = ρ.1 7 t
theorem tc_J_end {σ ρ : tcS} (hJ : tc_J σ ρ) (hF : tc_fix σ ρ) {t p : Nat} (ht : t < σ.2.2.2 1) : bt (ρ.1 7 t) p = true ↔ tc_bw σ t p := by
  obtain ⟨j1, j2, j3, j4, j5, j6, j7, j8⟩ := hJ
  refine ⟨j5 t p ht, fun h => h.2.2 (fun t p => bt (ρ.1 7 t) p = true) ?_⟩
  intro t p ht hp hR hk
  rw [← hF t ht, tc_pws_bt]
  refine ⟨(j3 t p ht).mpr ⟨hp, hR⟩, fun k hk8 hn => ?_⟩
  rw [j2] at hn
  obtain ⟨u, q, hu, hq, hku, hM, hS⟩ := hk k hk8 hn
  have := j7 u p hu (tc_nz.mpr ⟨q, hS⟩) ((j4 u p hu).mpr ⟨hp, hM⟩)
  rw [hku] at this
  exact this
theorem tc_upd_s {f : Nat → Int32} {k : Nat} {x : Int32} : upd f k x k = x := by simp [upd]
theorem tc_upd_n {f : Nat → Int32} {k j : Nat} {x : Int32} (h : j ≠ k) : upd f k x j = f j := by simp [upd, h]
/-- pws grows with the supplies -/
theorem tc_pws_mono {r nk : Int32} {s1 s2 : Nat → Int32} {n p : Nat} (h : ∀ k, bt (s1 k) p = true → bt (s2 k) p = true) (h1 : bt (tc_pws r nk s1 n) p = true) : bt (tc_pws r nk s2 n) p = true := by
  rw [tc_pws_bt] at h1 ⊢
  exact ⟨h1.1, fun k hk hn => h k (h1.2 k hk hn)⟩
/-- one tool's turn -/
theorem tc_gs_J {σ ρ : tcS} (hK : ∀ t, t < σ.2.2.2 1 → σ.2.1 0 t < 8) (hJ : tc_J σ ρ) {t : Nat} (ht : t < σ.2.2.2 1) (hne : ¬ tc_pws (ρ.1 5 t) (ρ.1 4 t) (ρ.1 8) 8 = ρ.1 7 t) : tc_J σ (tc_gs t ρ) ∧ ¬ tc_pws (ρ.1 5 t) (ρ.1 4 t) (ρ.1 8) 8 = 0 := by
  obtain ⟨j1, j2, j3, j4, j5, j6, j7, j8⟩ := hJ
  have hkd : ρ.2.1 0 t = σ.2.1 0 t := by rw [j1]
  have hnz : ¬ tc_pws (ρ.1 5 t) (ρ.1 4 t) (ρ.1 8) 8 = 0 := by
    intro h0
    refine hne ?_
    rw [h0]
    refine (tc_z.mpr (fun i _ => ?_)).symm
    cases e : bt (ρ.1 7 t) i
    · rfl
    · have := j8 t i ht e
      rw [h0, b_0] at this
      cases this
  have hbw : ∀ p, bt (tc_pws (ρ.1 5 t) (ρ.1 4 t) (ρ.1 8) 8) p = true → tc_bw σ t p := by
    intro p hp
    rw [tc_pws_bt] at hp
    obtain ⟨h1, h2⟩ := hp
    obtain ⟨h3, h4⟩ := (j3 t p ht).mp h1
    refine bw_step ht h3 h4 (fun k hk hn => ?_)
    have h5 := h2 k hk (by rw [j2]; exact hn)
    obtain ⟨u, q, a1, a2, a3, a4, a5⟩ := j6 k p hk h5
    exact ⟨u, q, a1, a2, a3, a4, a5⟩
  -- the new supplies
  have hsup : ∀ k p, bt (upd (ρ.1 8) (ρ.2.1 0 t) (ρ.1 8 (ρ.2.1 0 t) ||| ρ.1 6 t) k) p = true ↔ bt (ρ.1 8 k) p = true ∨ (k = σ.2.1 0 t ∧ bt (ρ.1 6 t) p = true) := by
    intro k p
    rw [hkd]
    by_cases hk : k = σ.2.1 0 t
    · subst hk
      rw [tc_upd_s, b_or, Bool.or_eq_true]
      simp
    · rw [tc_upd_n hk]
      simp [hk]
  refine ⟨⟨j1, j2, j3, j4, ?_, ?_, ?_, ?_⟩, hnz⟩
  · intro u p hu hb
    have hb : bt (upd (ρ.1 7) t (tc_pws (ρ.1 5 t) (ρ.1 4 t) (ρ.1 8) 8) u) p = true := hb
    by_cases h : u = t
    · subst h
      rw [tc_upd_s] at hb
      exact hbw p hb
    · rw [tc_upd_n h] at hb
      exact j5 u p hu hb
  · intro k p hk hb
    have hb : bt (upd (ρ.1 8) (ρ.2.1 0 t) (ρ.1 8 (ρ.2.1 0 t) ||| ρ.1 6 t) k) p = true := hb
    rcases (hsup k p).mp hb with q | q
    · exact j6 k p hk q
    · obtain ⟨i, hi⟩ := tc_nz.mp hnz
      have h1 := hbw i hi
      exact ⟨t, i, ht, h1.2.1, q.1.symm, ((j4 t p ht).mp q.2).2, h1⟩
  · intro u p hu hz hm
    show bt (upd (ρ.1 8) (ρ.2.1 0 t) (ρ.1 8 (ρ.2.1 0 t) ||| ρ.1 6 t) (σ.2.1 0 u)) p = true
    rw [hsup]
    have hz : ¬ upd (ρ.1 7) t (tc_pws (ρ.1 5 t) (ρ.1 4 t) (ρ.1 8) 8) u = 0 := hz
    have hm : bt (ρ.1 6 u) p = true := hm
    by_cases h : u = t
    · subst h
      exact Or.inr ⟨rfl, hm⟩
    · rw [tc_upd_n h] at hz
      exact Or.inl (j7 u p hu hz hm)
  · intro u p hu hb
    have hb : bt (upd (ρ.1 7) t (tc_pws (ρ.1 5 t) (ρ.1 4 t) (ρ.1 8) 8) u) p = true := hb
    refine tc_pws_mono (s1 := ρ.1 8) (fun k hk => (hsup k p).mpr (Or.inl hk)) ?_
    show bt (tc_pws (ρ.1 5 u) (ρ.1 4 u) (ρ.1 8) 8) p = true
    by_cases h : u = t
    · subst h
      rw [tc_upd_s] at hb
      exact hb
    · rw [tc_upd_n h] at hb
      exact j8 u p hu hb
/-- how many tools of the first n are not built anywhere -/
def tc_Z (ρ : tcS) : Nat → Nat
  | 0 => 0
  | n + 1 => tc_Z ρ n + (if ρ.1 7 n = 0 then 1 else 0)
theorem tc_Z_le (ρ : tcS) : ∀ n, tc_Z ρ n ≤ n
  | 0 => Nat.le_refl _
  | n + 1 => by
    have := tc_Z_le ρ n
    unfold tc_Z
    split <;> omega
theorem tc_Z_mono {ρ τ : tcS} : ∀ {n : Nat}, (∀ t, t < n → ¬ ρ.1 7 t = 0 → ¬ τ.1 7 t = 0) → tc_Z τ n ≤ tc_Z ρ n
  | 0, _ => Nat.le_refl _
  | n + 1, h => by
    have ih := tc_Z_mono (n := n) (fun t ht => h t (by omega))
    have h1 := h n (by omega)
    unfold tc_Z
    by_cases q : ρ.1 7 n = 0
    · rw [if_pos q]
      split <;> omega
    · rw [if_neg q, if_neg (h1 q)]
      omega
theorem tc_Z_lt {ρ τ : tcS} : ∀ {n u : Nat}, u < n → (∀ t, t < n → ¬ ρ.1 7 t = 0 → ¬ τ.1 7 t = 0) → ρ.1 7 u = 0 → ¬ τ.1 7 u = 0 → tc_Z τ n < tc_Z ρ n
  | 0, u, hu, _, _, _ => absurd hu (by omega)
  | n + 1, u, hu, h, h1, h2 => by
    unfold tc_Z
    by_cases q : u = n
    · subst q
      have := tc_Z_mono (n := u) (fun t ht => h t (by omega))
      rw [if_pos h1, if_neg h2]
      omega
    · have ih := tc_Z_lt (n := n) (u := u) (by omega) (fun t ht => h t (by omega)) h1 h2
      have h3 := h n (by omega)
      by_cases q2 : ρ.1 7 n = 0
      · rw [if_pos q2]
        split <;> omega
      · rw [if_neg q2, if_neg (h3 q2)]
        omega
/-- a pass from tool t on: J stays; and either a tool is built that wasn't, or all is settled -/
theorem tc_grow_J {σ : tcS} (hK : ∀ t, t < σ.2.2.2 1 → σ.2.1 0 t < 8) : ∀ (n t : Nat) (a : tcS × Bool), t + n = σ.2.2.2 1 → tc_J σ a.1 →
    tc_J σ (tc_up tc_gb n t a).1 ∧ (∀ u, u < σ.2.2.2 1 → ¬ a.1.1 7 u = 0 → ¬ (tc_up tc_gb n t a).1.1 7 u = 0) ∧
    ((∃ u, u < σ.2.2.2 1 ∧ a.1.1 7 u = 0 ∧ ¬ (tc_up tc_gb n t a).1.1 7 u = 0) ∨ ((∀ u, u < t → tc_pws (a.1.1 5 u) (a.1.1 4 u) (a.1.1 8) 8 = a.1.1 7 u) → tc_fix σ (tc_up tc_gb n t a).1)) ∧
    ((tc_up tc_gb n t a).2 = false → tc_up tc_gb n t a = a ∧ ∀ u, t ≤ u → u < σ.2.2.2 1 → tc_pws (a.1.1 5 u) (a.1.1 4 u) (a.1.1 8) 8 = a.1.1 7 u)
  | 0, t, a, h, hJ => by
    refine ⟨hJ, fun u _ q => q, Or.inr (fun q u hu => q u (by omega)), fun _ => ⟨rfl, fun u h1 h2 => absurd h2 (by omega)⟩⟩
  | n + 1, t, a, h, hJ => by
    show tc_J σ (tc_up tc_gb n (t + 1) (tc_gb t a)).1 ∧ (∀ u, u < σ.2.2.2 1 → ¬ a.1.1 7 u = 0 → ¬ (tc_up tc_gb n (t + 1) (tc_gb t a)).1.1 7 u = 0) ∧
      ((∃ u, u < σ.2.2.2 1 ∧ a.1.1 7 u = 0 ∧ ¬ (tc_up tc_gb n (t + 1) (tc_gb t a)).1.1 7 u = 0) ∨ ((∀ u, u < t → tc_pws (a.1.1 5 u) (a.1.1 4 u) (a.1.1 8) 8 = a.1.1 7 u) → tc_fix σ (tc_up tc_gb n (t + 1) (tc_gb t a)).1)) ∧
      ((tc_up tc_gb n (t + 1) (tc_gb t a)).2 = false → tc_up tc_gb n (t + 1) (tc_gb t a) = a ∧ ∀ u, t ≤ u → u < σ.2.2.2 1 → tc_pws (a.1.1 5 u) (a.1.1 4 u) (a.1.1 8) 8 = a.1.1 7 u)
    by_cases e : tc_pws (a.1.1 5 t) (a.1.1 4 t) (a.1.1 8) 8 = a.1.1 7 t
    · rw [tc_gb_eq e]
      obtain ⟨i1, i2, i3, i4⟩ := tc_grow_J hK n (t + 1) a (by omega) hJ
      refine ⟨i1, i2, ?_, fun q => ⟨(i4 q).1, fun u h1 h2 => ?_⟩⟩
      · rcases i3 with q | q
        · exact Or.inl q
        · refine Or.inr (fun h1 => q (fun u hu => ?_))
          by_cases h2 : u = t
          · rw [h2]
            exact e
          · exact h1 u (by omega)
      · by_cases h3 : u = t
        · rw [h3]
          exact e
        · exact (i4 q).2 u (by omega) h2
    · rw [tc_gb_ne e]
      have ht : t < σ.2.2.2 1 := by omega
      obtain ⟨hJ2, hnz⟩ := tc_gs_J hK hJ ht e
      obtain ⟨i1, i2, i3, i4⟩ := tc_grow_J hK n (t + 1) (tc_gs t a.1, true) (by omega) hJ2
      have hst : ∀ u, ¬ a.1.1 7 u = 0 → ¬ (tc_gs t a.1).1 7 u = 0 := by
        intro u hu
        show ¬ upd (a.1.1 7) t (tc_pws (a.1.1 5 t) (a.1.1 4 t) (a.1.1 8) 8) u = 0
        by_cases q : u = t
        · rw [q, tc_upd_s]
          exact hnz
        · rw [tc_upd_n q]
          exact hu
      have hgt : (tc_gs t a.1).1 7 t = tc_pws (a.1.1 5 t) (a.1.1 4 t) (a.1.1 8) 8 := tc_upd_s
      have htrue : (tc_up tc_gb n (t + 1) (tc_gs t a.1, true)).2 = true := by
        have key : ∀ (n t : Nat) (b : tcS × Bool), b.2 = true → (tc_up tc_gb n t b).2 = true := by
          intro n
          induction n with
          | zero => intro t b hb; exact hb
          | succ n ih =>
            intro t b hb
            refine ih (t + 1) (tc_gb t b) ?_
            unfold tc_gb
            split
            · exact hb
            · rfl
        exact key n (t + 1) _ rfl
      refine ⟨i1, fun u hu q => i2 u hu (hst u q), ?_, fun q => by rw [htrue] at q; cases q⟩
      by_cases hz : a.1.1 7 t = 0
      · exact Or.inl ⟨t, ht, hz, i2 t ht (by rw [hgt]; exact hnz)⟩
      · rcases i3 with ⟨u, hu, h1, h2⟩ | q
        · refine Or.inl ⟨u, hu, ?_, h2⟩
          refine Classical.byContradiction (fun q => hst u q h1)
        · refine Or.inr (fun hpre => q (fun u hu => ?_))
          have hs8 : (tc_gs t a.1).1 8 = a.1.1 8 := by
            show upd (a.1.1 8) (a.1.2.1 0 t) (a.1.1 8 (a.1.2.1 0 t) ||| a.1.1 6 t) = a.1.1 8
            have e8 : a.1.1 8 (a.1.2.1 0 t) ||| a.1.1 6 t = a.1.1 8 (a.1.2.1 0 t) := by
              refine b_ext (fun i hi => ?_)
              rw [b_or]
              cases e6 : bt (a.1.1 6 t) i
              · simp
              · have := hJ.2.2.2.2.2.2.1 t i ht hz e6
                rw [← hJ.1] at this
                rw [this]
                rfl
            rw [e8]
            funext j
            by_cases q : j = a.1.2.1 0 t
            · rw [q, tc_upd_s]
            · rw [tc_upd_n q]
          show tc_pws (a.1.1 5 u) (a.1.1 4 u) ((tc_gs t a.1).1 8) 8 = (tc_gs t a.1).1 7 u
          rw [hs8]
          by_cases q : u = t
          · rw [q, hgt]
          · show _ = upd (a.1.1 7) t (tc_pws (a.1.1 5 t) (a.1.1 4 t) (a.1.1 8) 8) u
            rw [tc_upd_n q]
            exact hpre u (by omega)
theorem tc_fix_grow {σ ρ : tcS} (hJ : tc_J σ ρ) (hF : tc_fix σ ρ) : tc_grow ρ = (ρ, false) := by
  have key : ∀ (n t : Nat), t + n = σ.2.2.2 1 → tc_up tc_gb n t (ρ, false) = (ρ, false) := by
    intro n
    induction n with
    | zero => intro t _; rfl
    | succ n ih =>
      intro t ht
      show tc_up tc_gb n (t + 1) (tc_gb t (ρ, false)) = _
      have e := tc_gb_eq (t := t) (a := (ρ, false)) (hF t (by omega))
      rw [e]
      exact ih (t + 1) (by omega)
  have hT : ρ.2.2.2 1 = σ.2.2.2 1 := by rw [hJ.1]
  unfold tc_grow
  exact key (ρ.2.2.2 1) 0 (by omega)
theorem tc_pass_fix {σ : tcS} (hK : ∀ t, t < σ.2.2.2 1 → σ.2.1 0 t < 8) : ∀ (n : Nat) (ρ : tcS), tc_J σ ρ → tc_Z ρ (σ.2.2.2 1) < n → tc_J σ (tc_pass n (ρ, true)) ∧ tc_fix σ (tc_pass n (ρ, true))
  | 0, ρ, _, h => absurd h (by omega)
  | n + 1, ρ, hJ, hZ => by
    have e : tc_pass (n + 1) (ρ, true) = tc_pass n (tc_grow ρ) := by rw [tc_pass, if_pos rfl]
    rw [e]
    have hT : ρ.2.2.2 1 = σ.2.2.2 1 := by rw [hJ.1]
    obtain ⟨i1, i2, i3, i4⟩ := tc_grow_J hK (σ.2.2.2 1) 0 (ρ, false) (by omega) hJ
    have eg : tc_grow ρ = tc_up tc_gb (σ.2.2.2 1) 0 (ρ, false) := by unfold tc_grow; rw [hT]
    rw [← eg] at i1 i2 i3 i4
    cases hg : (tc_grow ρ).2
    · have h1 := i4 hg
      have hF : tc_fix σ ρ := fun t ht => h1.2 t (Nat.zero_le _) ht
      rw [h1.1]
      have : tc_pass n (ρ, false) = ρ := by
        cases n with
        | zero => rfl
        | succ n => rw [tc_pass, if_neg (by simp)]
      rw [this]
      exact ⟨hJ, hF⟩
    · have e2 : tc_grow ρ = ((tc_grow ρ).1, true) := by rw [← hg]
      rcases i3 with ⟨u, hu, h1, h2⟩ | q
      · have hlt : tc_Z (tc_grow ρ).1 (σ.2.2.2 1) < tc_Z ρ (σ.2.2.2 1) := tc_Z_lt (n := σ.2.2.2 1) hu i2 h1 h2
        rw [e2]
        exact tc_pass_fix hK n (tc_grow ρ).1 i1 (by omega)
      · have hF : tc_fix σ (tc_grow ρ).1 := q (fun u hu => absurd hu (by omega))
        have : tc_pass n (tc_grow ρ) = (tc_grow ρ).1 := by
          cases n with
          | zero => rfl
          | succ n =>
            rw [tc_pass, if_pos hg, tc_fix_grow i1 hF]
            cases n with
            | zero => rfl
            | succ n => rw [tc_pass, if_neg (by simp)]
        rw [this]
        exact ⟨i1, hF⟩
theorem tc_i0_up : ∀ (n j : Nat) (ρ : tcS), (∀ k, k ≠ 5 → k ≠ 6 → k ≠ 7 → (tc_up tc_i0 n j ρ).1 k = ρ.1 k) ∧
    (∀ t, j ≤ t → t < j + n → (tc_up tc_i0 n j ρ).1 5 t = tc_phav ρ (ρ.1 1 t) ∧ (tc_up tc_i0 n j ρ).1 6 t = tc_phav ρ (ρ.1 2 t) ∧ (tc_up tc_i0 n j ρ).1 7 t = 0) ∧
    (∀ t, t < j → (tc_up tc_i0 n j ρ).1 5 t = ρ.1 5 t ∧ (tc_up tc_i0 n j ρ).1 6 t = ρ.1 6 t ∧ (tc_up tc_i0 n j ρ).1 7 t = ρ.1 7 t)
  | 0, j, ρ => ⟨fun _ _ _ _ => rfl, fun t h1 h2 => absurd h2 (by omega), fun _ _ => ⟨rfl, rfl, rfl⟩⟩
  | n + 1, j, ρ => by
    obtain ⟨h1, h2, h3⟩ := tc_i0_up n (j + 1) (tc_i0 j ρ)
    have e5 : (tc_i0 j ρ).1 5 = upd (ρ.1 5) j (tc_phav ρ (ρ.1 1 j)) := rfl
    have e6 : (tc_i0 j ρ).1 6 = upd (ρ.1 6) j (tc_phav ρ (ρ.1 2 j)) := rfl
    have e7 : (tc_i0 j ρ).1 7 = upd (ρ.1 7) j 0 := rfl
    refine ⟨fun k a b c => ?_, fun t a b => ?_, fun t a => ?_⟩
    · rw [show tc_up tc_i0 (n + 1) j ρ = tc_up tc_i0 n (j + 1) (tc_i0 j ρ) from rfl, h1 k a b c]
      show va_up (va_up (va_up ρ.1 5 _) 6 _) 7 _ k = ρ.1 k
      simp [va_up, a, b, c]
    · rw [show tc_up tc_i0 (n + 1) j ρ = tc_up tc_i0 n (j + 1) (tc_i0 j ρ) from rfl]
      by_cases q : t = j
      · subst q
        obtain ⟨g1, g2, g3⟩ := h3 t (by omega)
        rw [g1, g2, g3, e5, e6, e7, tc_upd_s, tc_upd_s, tc_upd_s]
        exact ⟨rfl, rfl, rfl⟩
      · exact h2 t (by omega) (by omega)
    · rw [show tc_up tc_i0 (n + 1) j ρ = tc_up tc_i0 n (j + 1) (tc_i0 j ρ) from rfl]
      obtain ⟨g1, g2, g3⟩ := h3 t (by omega)
      rw [g1, g2, g3, e5, e6, e7, tc_upd_n (by omega), tc_upd_n (by omega), tc_upd_n (by omega)]
      exact ⟨rfl, rfl, rfl⟩
theorem tc_phav_bt {σ : tcS} (hP : σ.2.2.2 0 ≤ 6) {w : Int32} {p : Nat} : bt (tc_phav σ w) p = true ↔ p < σ.2.2.2 0 ∧ tc_fit w (σ.1 0 p) = true := by
  unfold tc_phav
  constructor
  · intro h
    have h32 := tc_bt_lt h
    rw [tc_mk_bt (by omega) h32] at h
    simpa using h
  · intro h
    rw [tc_mk_bt (by omega) (by omega)]
    simpa using h
/-- where the passes begin -/
def tc_st0 (σ : tcS) : tcS := tc_s1 (tc_up tc_i0 (σ.2.2.2 1) 0 σ) 8 (tc_fill 8 0 ((tc_up tc_i0 (σ.2.2.2 1) 0 σ).1 8))
theorem tc_st0_J {σ : tcS} (hP : σ.2.2.2 0 ≤ 6) (hK : ∀ t, t < σ.2.2.2 1 → σ.2.1 0 t < 8) : tc_J σ (tc_st0 σ) := by
  obtain ⟨h1, h2, h3⟩ := tc_i0_up (σ.2.2.2 1) 0 σ
  have hk := tc_up_k1 tc_i0_k (σ.2.2.2 1) 0 σ
  refine ⟨hk.1, h1 4 (by omega) (by omega) (by omega), fun t p ht => ?_, fun t p ht => ?_, fun t p ht hb => ?_, fun k p hk8 hb => ?_, fun u p hu hz => ?_, fun t p ht hb => ?_⟩
  · show bt ((tc_up tc_i0 (σ.2.2.2 1) 0 σ).1 5 t) p = true ↔ _
    rw [(h2 t (by omega) (by omega)).1]
    exact tc_phav_bt hP
  · show bt ((tc_up tc_i0 (σ.2.2.2 1) 0 σ).1 6 t) p = true ↔ _
    rw [(h2 t (by omega) (by omega)).2.1]
    exact tc_phav_bt hP
  · have hb : bt ((tc_up tc_i0 (σ.2.2.2 1) 0 σ).1 7 t) p = true := hb
    rw [(h2 t (by omega) (by omega)).2.2, b_0] at hb
    cases hb
  · have hb : bt (tc_fill 8 0 ((tc_up tc_i0 (σ.2.2.2 1) 0 σ).1 8) k) p = true := hb
    rw [tc_fill, if_pos hk8, b_0] at hb
    cases hb
  · exact absurd (show (tc_up tc_i0 (σ.2.2.2 1) 0 σ).1 7 u = 0 from (h2 u (by omega) (by omega)).2.2) hz
  · have hb : bt ((tc_up tc_i0 (σ.2.2.2 1) 0 σ).1 7 t) p = true := hb
    rw [(h2 t (by omega) (by omega)).2.2, b_0] at hb
    cases hb
/-- THE SETTLED TABLES -/
theorem tc_settle_J {σ : tcS} (hP : σ.2.2.2 0 ≤ 6) (hK : ∀ t, t < σ.2.2.2 1 → σ.2.1 0 t < 8) : tc_J σ (tc_settle σ) ∧ tc_fix σ (tc_settle σ) := by
  have h := tc_pass_fix hK (σ.2.2.2 1 + 1) (tc_st0 σ) (tc_st0_J hP hK) (by have := tc_Z_le (tc_st0 σ) (σ.2.2.2 1); omega)
  exact h
theorem tc_settle_built {σ : tcS} (hP : σ.2.2.2 0 ≤ 6) (hK : ∀ t, t < σ.2.2.2 1 → σ.2.1 0 t < 8) {t p : Nat} (ht : t < σ.2.2.2 1) : bt ((tc_settle σ).1 7 t) p = true ↔ tc_bw σ t p :=
  tc_J_end (tc_settle_J hP hK).1 (tc_settle_J hP hK).2 ht
/-- what settling leaves as it was -/
theorem tc_gb_keep (t : Nat) (a : tcS × Bool) (k : Nat) (h7 : k ≠ 7) (h8 : k ≠ 8) : (tc_gb t a).1.1 k = a.1.1 k := by
  unfold tc_gb
  split
  · rfl
  · show va_up (va_up a.1.1 7 _) 8 _ k = a.1.1 k
    simp [va_up, h7, h8]
theorem tc_grow_keep (k : Nat) (h7 : k ≠ 7) (h8 : k ≠ 8) : ∀ (n t : Nat) (a : tcS × Bool), (tc_up tc_gb n t a).1.1 k = a.1.1 k
  | 0, _, _ => rfl
  | n + 1, t, a => by
    show (tc_up tc_gb n (t + 1) (tc_gb t a)).1.1 k = _
    rw [tc_grow_keep k h7 h8 n (t + 1) (tc_gb t a), tc_gb_keep t a k h7 h8]
theorem tc_pass_keep (k : Nat) (h7 : k ≠ 7) (h8 : k ≠ 8) : ∀ (n : Nat) (a : tcS × Bool), (tc_pass n a).1 k = a.1.1 k
  | 0, _ => rfl
  | n + 1, a => by
    unfold tc_pass
    split
    · rw [tc_pass_keep k h7 h8 n (tc_grow a.1)]
      exact tc_grow_keep k h7 h8 _ _ _
    · rfl
theorem tc_settle_keep {σ : tcS} {k : Nat} (h : k < 5 ∨ 8 < k) : (tc_settle σ).1 k = σ.1 k := by
  have h1 : (tc_settle σ).1 k = (tc_st0 σ).1 k := tc_pass_keep k (by omega) (by omega) (σ.2.2.2 1 + 1) (tc_st0 σ, true)
  rw [h1]
  show va_up (tc_up tc_i0 (σ.2.2.2 1) 0 σ).1 8 _ k = _
  have h8 : k ≠ 8 := by omega
  simp only [va_up, h8, if_false]
  exact (tc_i0_up (σ.2.2.2 1) 0 σ).1 k (by omega) (by omega) (by omega)
/-- a kind is supplied for a platform -/
theorem tc_settle_sup {σ : tcS} (hP : σ.2.2.2 0 ≤ 6) (hK : ∀ t, t < σ.2.2.2 1 → σ.2.1 0 t < 8) {k p : Nat} (hk : k < 8) (hp : p < σ.2.2.2 0) : bt ((tc_settle σ).1 8 k) p = true ↔ ∃ u q, u < σ.2.2.2 1 ∧ q < σ.2.2.2 0 ∧ σ.2.1 0 u = k ∧ tc_fit (σ.1 2 u) (σ.1 0 p) = true ∧ tc_bw σ u q := by
  obtain ⟨hJ, hF⟩ := tc_settle_J hP hK
  refine ⟨hJ.2.2.2.2.2.1 k p hk, fun ⟨u, q, h1, h2, h3, h4, h5⟩ => ?_⟩
  have h6 := (tc_J_end hJ hF h1).mpr h5
  have h7 := hJ.2.2.2.2.2.2.1 u p h1 (tc_nz.mpr ⟨q, h6⟩) ((hJ.2.2.2.1 u p h1).mpr ⟨hp, h4⟩)
  rw [h3] at h7
  exact h7
