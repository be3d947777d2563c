/-! CHOOSING -/
theorem tc_ff_cg {p q : Nat → Bool} : ∀ {n k : Nat}, (∀ i, k ≤ i → i < k + n → p i = q i) → tc_ff p n k = tc_ff q n k
  | 0, _, _ => rfl
  | n + 1, k, h => by
    unfold tc_ff
    rw [h k (Nat.le_refl _) (by omega), tc_ff_cg (n := n) (k := k + 1) (fun i h1 h2 => h i (by omega) (by omega))]
theorem tr_why {σ τ : tcS} (h : tr_W σ τ) {t ho g : Nat} (ht : t < σ.2.2.2 1) (hh : ho < σ.2.2.2 0) (hg : g < σ.2.2.2 0) : tm_why τ t ho g = tc_why σ t ho g := by
  obtain ⟨⟨h1, h2, h3, h4, h5, h6, h7, h8, h9, h10, h11, h12, h13, h14⟩, w1, w2⟩ := h
  obtain ⟨a1, a2, a3, a4, a5⟩ := h5 t ht
  have hk := h1.2.2.2.2.2.1 t ht
  obtain ⟨b1, b2, b3, b4⟩ := h7 (σ.2.1 0 t) hk
  unfold tm_why tc_why
  rw [a4, b3, a3, b1, (w1 t ho ht hh).1, (w1 t g ht hg).2.1, (w1 t ho ht hh).2.2, a1, a2, h4 ho hh, h4 g hg]
theorem tr_lack {σ τ : tcS} (h : tr_W σ τ) {t ho g : Nat} (w : Nat) (ht : t < σ.2.2.2 1) (hh : ho < σ.2.2.2 0) (hg : g < σ.2.2.2 0) : tm_lack τ w t ho g = tc_lack σ w t ho g := by
  obtain ⟨⟨h1, h2, h3, h4, h5, h6, h7, h8, h9, h10, h11, h12, h13, h14⟩, w1, w2⟩ := h
  obtain ⟨a1, a2, a3, a4, a5⟩ := h5 t ht
  have iT := h1.2.1
  have key : ∀ (x y : Int32), tm_lk x y = tc_ff (bt (x &&& (y ^^^ (-1)))) 32 0 := by
    intro x y
    unfold tm_lk
    refine tc_ff_cg (fun i _ hi => ?_)
    rw [b_and, tc_not (by omega)]
  unfold tm_lack tc_lack
  rw [a1, a2, h4 ho hh, h4 g hg, key, key]
  have e : tm_miss τ t ho = tc_ff (fun k => bt (σ.1 4 t) k && !bt (σ.1 8 k) ho) 8 0 := by
    unfold tm_miss
    refine tc_ff_cg (fun k _ hk => ?_)
    rw [h8 t k (by omega) (by omega), w2 k ho (by omega) hh]
  rw [e]
theorem tr_upne {f : Nat → Int32} {j i : Nat} {x : Int32} (h : i ≠ j) : upd f j x i = f i := by simp [upd, h]
theorem tr_upeq {f : Nat → Int32} {j : Nat} {x : Int32} : upd f j x j = x := by simp [upd]
/-- a row more -/
theorem tr_tell {σ τ : tcS} (h : tr_W σ τ) {t ho g : Nat} (w : Nat) (ht : t < σ.2.2.2 1) (hh : ho < σ.2.2.2 0) (hg : g < σ.2.2.2 0) (hR : σ.2.2.2 4 < 144) : tr_W (tc_add σ ho t w (tc_lack σ w t ho g)) (tm_tell τ t ho g w) ∧ (tc_add σ ho t w (tc_lack σ w t ho g)).2.2.2 4 = σ.2.2.2 4 + 1 := by
  have hl := tr_lack h w ht hh hg
  have hs := tm_tell_sr τ t ho g w
  obtain ⟨⟨h1, h2, h3, h4, h5, h6, h7, h8, h9, h10, h11, h12, h13, h14⟩, w1, w2⟩ := h
  have e4 := h3 4 (by omega)
  have hI2 := tm_tell_I h2 t ho g w (by omega)
  have hI1 := tc_add_I h1 ho t w (tc_lack σ w t ho g)
  have ea : tc_add σ ho t w (tc_lack σ w t ho g) = tc_s4 (tc_w1 (tc_w1 (tc_w1 (tc_w1 σ (σ.2.2.2 4 * 4) (nI ho)) (σ.2.2.2 4 * 4 + 1) (nI t)) (σ.2.2.2 4 * 4 + 2) (nI w)) (σ.2.2.2 4 * 4 + 3) (tc_oI (tc_lack σ w t ho g))) 4 (σ.2.2.2 4 + 1) := by
    unfold tc_add
    rw [if_neg (by omega)]
  rw [ea] at hI1 ⊢
  refine ⟨⟨⟨hI1, hI2, fun k hk => ?_, h4, ?_, ?_, ?_, fun t2 k2 ht2 hk2 => ?_, ?_, h10, h11, h12, ?_, ?_⟩, ?_, fun k p hk hp => ?_⟩, rfl⟩
  · show va_up τ.2.2.2 4 (τ.2.2.2 4 + 1) k = va_up σ.2.2.2 4 (σ.2.2.2 4 + 1) k
    unfold va_up
    split
    · rw [e4]
    · exact h3 k hk
  · exact h5
  · exact h6
  · exact h7
  · show bt (σ.1 4 t2) k2 = _
    rw [h8 t2 k2 ht2 hk2]
    exact (tm_wants_cg (τ := τ) (hs.2.1 3 (by omega)) (hs.2.1 4 (by omega)) (hs.2.2.2 2 (by omega)) t2 k2).symm
  · show ∀ i, i < σ.2.2.2 4 + 1 → upd (upd (upd (upd (σ.1 12) (σ.2.2.2 4 * 4) (nI ho)) (σ.2.2.2 4 * 4 + 1) (nI t)) (σ.2.2.2 4 * 4 + 2) (nI w)) (σ.2.2.2 4 * 4 + 3) (tc_oI (tc_lack σ w t ho g)) (i * 4) = nI (va_up (τ.2.1 5) (τ.2.2.2 4) ho i) ∧ upd (upd (upd (upd (σ.1 12) (σ.2.2.2 4 * 4) (nI ho)) (σ.2.2.2 4 * 4 + 1) (nI t)) (σ.2.2.2 4 * 4 + 2) (nI w)) (σ.2.2.2 4 * 4 + 3) (tc_oI (tc_lack σ w t ho g)) (i * 4 + 1) = nI (va_up (τ.2.1 6) (τ.2.2.2 4) t i) ∧ upd (upd (upd (upd (σ.1 12) (σ.2.2.2 4 * 4) (nI ho)) (σ.2.2.2 4 * 4 + 1) (nI t)) (σ.2.2.2 4 * 4 + 2) (nI w)) (σ.2.2.2 4 * 4 + 3) (tc_oI (tc_lack σ w t ho g)) (i * 4 + 2) = nI (va_up (τ.2.1 7) (τ.2.2.2 4) w i) ∧ upd (upd (upd (upd (σ.1 12) (σ.2.2.2 4 * 4) (nI ho)) (σ.2.2.2 4 * 4 + 1) (nI t)) (σ.2.2.2 4 * 4 + 2) (nI w)) (σ.2.2.2 4 * 4 + 3) (tc_oI (tc_lack σ w t ho g)) (i * 4 + 3) = tc_oI (va_up (τ.2.2.1 2) (τ.2.2.2 4) (tm_lack τ w t ho g) i)
    intro i hi
    rw [hl, e4]
    by_cases q : i = σ.2.2.2 4
    · subst q
      refine ⟨?_, ?_, ?_, ?_⟩
      · rw [tr_upne (by omega), tr_upne (by omega), tr_upne (by omega), tr_upeq]
        simp [va_up]
      · rw [tr_upne (by omega), tr_upne (by omega), tr_upeq]
        simp [va_up]
      · rw [tr_upne (by omega), tr_upeq]
        simp [va_up]
      · rw [tr_upeq]
        simp [va_up]
    · obtain ⟨g1, g2, g3, g4⟩ := h9 i (by omega)
      refine ⟨?_, ?_, ?_, ?_⟩
      · rw [tr_upne (by omega), tr_upne (by omega), tr_upne (by omega), tr_upne (by omega), g1]
        simp [va_up, q]
      · rw [tr_upne (by omega), tr_upne (by omega), tr_upne (by omega), tr_upne (by omega), g2]
        simp [va_up, q]
      · rw [tr_upne (by omega), tr_upne (by omega), tr_upne (by omega), tr_upne (by omega), g3]
        simp [va_up, q]
      · rw [tr_upne (by omega), tr_upne (by omega), tr_upne (by omega), tr_upne (by omega), g4]
        simp [va_up, q]
  · exact h13
  · exact h14
  · exact w1
  · show bt (σ.1 8 k) p = _
    rw [w2 k p hk hp]
    exact (tm_there_cg (τ := τ) hs.1 (hs.2.1 0 (by omega)) (hs.2.2.1 3 (by omega)) (hs.2.2.2 0 (by omega)) (hs.2.2.2 1 (by omega)) k p).symm
theorem tr_fg {k ho g : Nat} : ∀ (n i : Nat) {σ τ : tcS}, tr_W σ τ → i + n ≤ σ.2.2.2 1 → ho < σ.2.2.2 0 → g < σ.2.2.2 0 → σ.2.2.2 4 + tm_cn (σ.2.1 0) (σ.2.1 1) k n i ≤ 144 →
    (tm_fg k ho g n i τ).1 = (tc_fg k ho g n i σ).1 ∧ tr_W (tc_fg k ho g n i σ).2 (tm_fg k ho g n i τ).2 ∧ (tc_fg k ho g n i σ).2.2.2.2 4 ≤ σ.2.2.2 4 + tm_cn (σ.2.1 0) (σ.2.1 1) k n i
  | 0, _, _, _, h, _, _, _, _ => ⟨rfl, h, Nat.le_add_right _ _⟩
  | n + 1, i, σ, τ, h, hn, hh, hg, hR => by
    have e5 := (h.1.2.2.2.2.1 i (by omega)).2.2.2.2
    have hO := h.1.1.2.2.2.2.2.2.1 i (by omega)
    have e0 := (h.1.2.2.2.2.1 _ hO).2.2.2.1
    have hw := tr_why h (g := g) hO hh hg
    unfold tm_cn at hR ⊢
    unfold tm_fg tc_fg
    rw [e5, e0, hw]
    by_cases q : σ.2.1 0 (σ.2.1 1 i) = k
    · rw [if_pos q, if_pos q]
      rw [if_pos q] at hR ⊢
      have ht := tr_tell h (g := g) (tc_why σ (σ.2.1 1 i) ho g) hO hh hg (by omega)
      by_cases q2 : tc_why σ (σ.2.1 1 i) ho g = 0
      · rw [if_pos q2, if_pos q2]
        exact ⟨rfl, ht.1, by rw [ht.2]; omega⟩
      · rw [if_neg q2, if_neg q2]
        have hs := tc_add_same σ ho (σ.2.1 1 i) (tc_why σ (σ.2.1 1 i) ho g) (tc_lack σ (tc_why σ (σ.2.1 1 i) ho g) (σ.2.1 1 i) ho g)
        have ih := tr_fg (k := k) (ho := ho) (g := g) n (i + 1) ht.1 (by rw [hs.2.2.2.1]; omega) (by rw [hs.2.2.1]; exact hh) (by rw [hs.2.2.1]; exact hg) (by rw [ht.2, hs.1]; omega)
        rw [ht.2, hs.1] at ih
        exact ⟨ih.1, ih.2.1, by omega⟩
    · rw [if_neg q, if_neg q]
      rw [if_neg q] at hR ⊢
      have ih := tr_fg (k := k) (ho := ho) (g := g) n (i + 1) h (by omega) hh hg (by omega)
      exact ⟨ih.1, ih.2.1, by omega⟩
theorem tr_set1 {σ τ : tcS} (h : tr_W σ τ) (k : Nat) (o : Option Nat) : tr_W (tc_s3 σ 1 (va_up (σ.2.2.1 1) k o)) (tc_s3 τ 1 (va_up (τ.2.2.1 1) k o)) := by
  obtain ⟨⟨h1, h2, h3, h4, h5, h6, h7, h8, h9, h10, h11, h12, h13, h14⟩, w1, w2⟩ := h
  refine ⟨⟨h1, h2, h3, h4, h5, h6, fun k2 hk2 => ⟨(h7 k2 hk2).1, (h7 k2 hk2).2.1, (h7 k2 hk2).2.2.1, ?_⟩, ?_, h9, h10, h11, h12, h13, h14⟩, w1, ?_⟩
  · show va_up (τ.2.2.1 1) k o k2 = va_up (σ.2.2.1 1) k o k2
    unfold va_up
    split
    · rfl
    · exact (h7 k2 hk2).2.2.2
  · intro t k2 ht hk2
    show bt (σ.1 4 t) k2 = _
    rw [h8 t k2 ht hk2]
    refine (tm_wants_cg (τ := τ) ?_ ?_ ?_ t k2).symm <;> rfl
  · intro k2 p hk2 hp
    show bt (σ.1 8 k2) p = _
    rw [w2 k2 p hk2 hp]
    refine (tm_there_cg (τ := τ) ?_ ?_ ?_ ?_ ?_ k2 p).symm <;> rfl
theorem tr_t0 {σ τ : tcS} (h : tr_W σ τ) : tr_W (tc_t0 σ) (tm_t0 τ) := by
  have h0 := tm_t0_k τ
  have hc : ∀ (n j : Nat) (ρ : tcS) (i : Nat), ((j ≤ i ∧ i < j + n) ∨ ρ.2.2.1 1 i = none) → (tc_up tm_c1 n j ρ).2.2.1 1 i = none := by
    intro n
    induction n with
    | zero =>
      intro j ρ i h
      rcases h with h | h
      · omega
      · exact h
    | succ n ih =>
      intro j ρ i h
      refine ih (j + 1) (tm_c1 j ρ) i ?_
      by_cases e : i = j
      · right
        show va_up (ρ.2.2.1 1) j none i = none
        simp [va_up, e]
      · rcases h with h | h
        · left
          omega
        · right
          show va_up (ρ.2.2.1 1) j none i = none
          simp [va_up, e, h]
  obtain ⟨⟨h1, h2, h3, h4, h5, h6, h7, h8, h9, h10, h11, h12, h13, h14⟩, w1, w2⟩ := h
  obtain ⟨s1, s2, s3, s4⟩ := h0.1
  have hI2 := h0.1.I h2 (by rw [h0.2]; exact h2.2.2.2.2.1)
  have s5 : ∀ k, 4 < k → k < 8 → (tm_t0 τ).2.1 k = τ.2.1 k := by
    have := tc_up_rel (R := fun (a b : tcS) => b.2.1 = a.2.1) (fun _ => rfl) (fun _ _ _ h k => k.trans h) (f := tm_c1) (fun j a => rfl) 8 0 τ
    intro k _ _
    show (tc_up tm_c1 8 0 τ).2.1 k = _
    rw [this]
  have s6 : (tm_t0 τ).2.2.1 2 = τ.2.2.1 2 := by
    have := tc_up_rel (R := fun (a b : tcS) => b.2.2.1 2 = a.2.2.1 2) (fun _ => rfl) (fun _ _ _ h k => k.trans h) (f := tm_c1) (fun j a => rfl) 8 0 τ
    exact this
  refine ⟨⟨h1, hI2, fun k hk => ?_, ?_, ?_, ?_, fun k hk => ?_, fun t k ht hk => ?_, ?_, h10, h11, h12, ?_, ?_⟩, ?_, fun k p hk hp => ?_⟩
  · by_cases e : k = 4
    · rw [e, h0.2]
      exact h3 4 (by omega)
    · rw [s4 k (by omega)]
      exact h3 k hk
  · rw [s1]
    exact h4
  · rw [s1, s2 0 (by omega), s2 1 (by omega)]
    exact h5
  · rw [s2 2 (by omega)]
    exact h6
  · rw [s1, s3 0 (by omega) (by omega)]
    refine ⟨(h7 k hk).1, (h7 k hk).2.1, (h7 k hk).2.2.1, ?_⟩
    show (tm_t0 τ).2.2.1 1 k = tc_fill 8 none (σ.2.2.1 1) k
    rw [tc_fill, if_pos hk]
    exact hc 8 0 τ k (Or.inl (by omega))
  · show bt (σ.1 4 t) k = _
    rw [h8 t k ht hk]
    exact (tm_wants_cg (τ := τ) (s2 3 (by omega)) (s2 4 (by omega)) (s4 2 (by omega)) t k).symm
  · rw [s5 5 (by omega) (by omega), s5 6 (by omega) (by omega), s5 7 (by omega) (by omega), s6]
    exact h9
  · rw [s2 3 (by omega)]
    exact h13
  · rw [s2 1 (by omega)]
    exact h14
  · have : ∀ t p, tm_bl (tm_t0 τ) t p = tm_bl τ t p := by
      intro t p
      unfold tm_bl
      rw [s3 3 (by omega) (by omega)]
    intro t p ht hp
    rw [this]
    exact w1 t p ht hp
  · show bt (σ.1 8 k) p = _
    rw [w2 k p hk hp]
    exact (tm_there_cg (τ := τ) s1 (s2 0 (by omega)) (s3 3 (by omega) (by omega)) (s4 0 (by omega)) (s4 1 (by omega)) k p).symm
