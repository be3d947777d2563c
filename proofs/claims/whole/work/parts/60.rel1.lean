/-! THE TWO STATES SIDE BY SIDE: σ the class's, τ the reference's -/
def tr_R (σ τ : tcS) : Prop :=
  tc_I σ ∧ tm_I τ ∧ (∀ k, k < 5 → τ.2.2.2 k = σ.2.2.2 k) ∧ (∀ p, p < σ.2.2.2 0 → τ.1 0 p = σ.1 0 p) ∧
  (∀ t, t < σ.2.2.2 1 → τ.1 1 t = σ.1 1 t ∧ τ.1 2 t = σ.1 2 t ∧ τ.1 3 t = σ.1 3 t ∧ τ.2.1 0 t = σ.2.1 0 t ∧ τ.2.1 1 t = σ.2.1 1 t) ∧
  (∀ i, i < σ.2.2.2 3 → τ.2.1 2 i = σ.2.1 2 i) ∧
  (∀ k, k < 8 → τ.1 10 k = σ.1 10 k ∧ τ.1 11 k = σ.1 11 k ∧ τ.2.2.1 0 k = σ.2.2.1 0 k ∧ τ.2.2.1 1 k = σ.2.2.1 1 k) ∧
  (∀ t k, t < 24 → k < 8 → bt (σ.1 4 t) k = tm_wants τ t k) ∧
  (∀ i, i < σ.2.2.2 4 → σ.1 12 (i * 4) = nI (τ.2.1 5 i) ∧ σ.1 12 (i * 4 + 1) = nI (τ.2.1 6 i) ∧ σ.1 12 (i * 4 + 2) = nI (τ.2.1 7 i) ∧ σ.1 12 (i * 4 + 3) = tc_oI (τ.2.2.1 2 i)) ∧
  (∀ i j, i < σ.2.2.2 1 → j < σ.2.2.2 1 → σ.2.1 1 i = σ.2.1 1 j → i = j) ∧ (∀ t, t < σ.2.2.2 1 → ∃ i, i < σ.2.2.2 1 ∧ σ.2.1 1 i = t) ∧
  (∀ i j, i < σ.2.2.2 3 → j < σ.2.2.2 3 → σ.2.1 2 i = σ.2.1 2 j → i = j) ∧ (∀ i, i < σ.2.2.2 2 → τ.2.1 3 i < σ.2.2.2 1) ∧ (∀ i, i < 24 → τ.2.1 1 i < 24)
theorem tr_code {σ τ : tcS} (h : tr_R σ τ) : tr_R σ (tc_s4 τ 5 0) := by
  obtain ⟨h1, h2, h3, h4, h5, h6, h7, h8, h9, h10, h11, h12, h13, h14⟩ := h
  refine ⟨h1, h2, fun k hk => ?_, h4, h5, h6, h7, fun t k ht hk => ?_, h9, h10, h11, h12, h13, h14⟩
  · show va_up τ.2.2.2 5 0 k = _
    rw [show va_up τ.2.2.2 5 0 k = τ.2.2.2 k by simp [va_up, show k ≠ 5 by omega]]
    exact h3 k hk
  · rw [h8 t k ht hk]
    refine (tm_wants_cg (τ := τ) ?_ ?_ ?_ t k).symm <;> rfl
theorem tr_ups {f g : Nat → Int32} {n : Nat} {x : Int32} (h : ∀ p, p < n → g p = f p) : ∀ p, p < n + 1 → upd g n x p = upd f n x p := by
  intro p hp
  unfold upd
  split
  · rfl
  · exact h p (by omega)
theorem tr_upv {α : Type} {f g : Nat → α} {n : Nat} {x : α} (h : ∀ p, p < n → g p = f p) : ∀ p, p < n + 1 → va_up g n x p = va_up f n x p := by
  intro p hp
  unfold va_up
  split
  · rfl
  · exact h p (by omega)
theorem tr_platform {σ τ : tcS} (h : tr_R σ τ) (c : Int32) : (tm_platform τ c).1 = (tc_platform σ c).1 ∧ tr_R (tc_platform σ c).2 (tm_platform τ c).2 := by
  have hR := h
  obtain ⟨h1, h2, h3, h4, h5, h6, h7, h8, h9, h10, h11, h12, h13, h14⟩ := h
  obtain ⟨iP, iT, iN, iA, iR, iK, iO, iQ, iF, iB⟩ := h1
  obtain ⟨jP, jT, jN, jA, jR, jK, jO, jQ, jF, jB, jW⟩ := h2
  have e0 := h3 0 (by omega)
  unfold tc_platform tm_platform
  by_cases q : 6 ≤ σ.2.2.2 0
  · rw [if_pos q, if_pos (by omega)]
    exact ⟨rfl, hR⟩
  · rw [if_neg q, if_neg (by omega)]
    refine ⟨by rw [e0], ⟨by show σ.2.2.2 0 + 1 ≤ 6; omega, iT, iN, iA, iR, iK, iO, iQ, iF, iB⟩, ⟨by show τ.2.2.2 0 + 1 ≤ 6; omega, jT, jN, jA, jR, jK, jO, jQ, jF, jB, jW⟩, fun k hk => ?_, ?_, h5, h6, h7, ?_, h9, h10, h11, h12, h13, h14⟩
    · show va_up τ.2.2.2 0 (τ.2.2.2 0 + 1) k = va_up σ.2.2.2 0 (σ.2.2.2 0 + 1) k
      unfold va_up
      split
      · rw [e0]
      · exact h3 k hk
    · show ∀ p, p < σ.2.2.2 0 + 1 → upd (τ.1 0) (τ.2.2.2 0) c p = upd (σ.1 0) (σ.2.2.2 0) c p
      rw [e0]
      exact tr_ups h4
    · intro t k ht hk
      show bt (σ.1 4 t) k = _
      rw [h8 t k ht hk]
      refine (tm_wants_cg (τ := τ) ?_ ?_ ?_ t k).symm <;> rfl
theorem tr_tool {σ τ : tcS} (h : tr_R σ τ) {k : Nat} (hk : k < 8) (r m v : Int32) : (tm_tool τ k r m v).1 = (tc_tool σ k r m v).1 ∧ tr_R (tc_tool σ k r m v).2 (tm_tool τ k r m v).2 := by
  have hR := h
  obtain ⟨h1, h2, h3, h4, h5, h6, h7, h8, h9, h10, h11, h12, h13, h14⟩ := h
  obtain ⟨iP, iT, iN, iA, iR, iK, iO, iQ, iF, iB⟩ := h1
  obtain ⟨jP, jT, jN, jA, jR, jK, jO, jQ, jF, jB, jW⟩ := h2
  have e1 := h3 1 (by omega)
  unfold tc_tool tm_tool
  by_cases q : 24 ≤ σ.2.2.2 1
  · rw [if_pos q, if_pos (by omega)]
    exact ⟨rfl, hR⟩
  · rw [if_neg q, if_neg (by omega)]
    have key : ∀ (f : Nat → Nat) (n x b : Nat), (∀ t, t < n → f t < b) → x < b → ∀ t, t < n + 1 → va_up f n x t < b := by
      intro f n x b h1 h2 t ht
      unfold va_up
      split
      · exact h2
      · exact h1 t (by omega)
    refine ⟨by rw [e1], ⟨iP, by show σ.2.2.2 1 + 1 ≤ 24; omega, iN, iA, iR, key _ _ _ 8 iK hk, key _ _ _ (σ.2.2.2 1 + 1) (fun i hi => Nat.lt_succ_of_lt (iO i hi)) (Nat.lt_succ_self _), iQ, iF, iB⟩, ⟨jP, by show τ.2.2.2 1 + 1 ≤ 24; omega, jN, jA, jR, key _ _ _ 8 jK hk, key _ _ _ (τ.2.2.2 1 + 1) (fun i hi => Nat.lt_succ_of_lt (jO i hi)) (Nat.lt_succ_self _), jQ, jF, jB, jW⟩, fun k2 hk2 => ?_, h4, ?_, h6, h7, ?_, h9, ?_, ?_, h12, fun i hi => Nat.lt_succ_of_lt (h13 i hi), ?_⟩
    · show va_up τ.2.2.2 1 (τ.2.2.2 1 + 1) k2 = va_up σ.2.2.2 1 (σ.2.2.2 1 + 1) k2
      unfold va_up
      split
      · rw [e1]
      · exact h3 k2 hk2
    · intro t ht
      show upd (τ.1 1) (τ.2.2.2 1) r t = upd (σ.1 1) (σ.2.2.2 1) r t ∧ upd (τ.1 2) (τ.2.2.2 1) m t = upd (σ.1 2) (σ.2.2.2 1) m t ∧ upd (τ.1 3) (τ.2.2.2 1) v t = upd (σ.1 3) (σ.2.2.2 1) v t ∧ va_up (τ.2.1 0) (τ.2.2.2 1) k t = va_up (σ.2.1 0) (σ.2.2.2 1) k t ∧ va_up (τ.2.1 1) (τ.2.2.2 1) (τ.2.2.2 1) t = va_up (σ.2.1 1) (σ.2.2.2 1) (σ.2.2.2 1) t
      rw [e1]
      exact ⟨tr_ups (fun t ht => (h5 t ht).1) t ht, tr_ups (fun t ht => (h5 t ht).2.1) t ht, tr_ups (fun t ht => (h5 t ht).2.2.1) t ht, tr_upv (fun t ht => (h5 t ht).2.2.2.1) t ht, tr_upv (fun t ht => (h5 t ht).2.2.2.2) t ht⟩
    · intro t k2 ht hk2
      show bt (σ.1 4 t) k2 = _
      rw [h8 t k2 ht hk2]
      refine (tm_wants_cg (τ := τ) ?_ ?_ ?_ t k2).symm <;> rfl
    · show ∀ i j, i < σ.2.2.2 1 + 1 → j < σ.2.2.2 1 + 1 → va_up (σ.2.1 1) (σ.2.2.2 1) (σ.2.2.2 1) i = va_up (σ.2.1 1) (σ.2.2.2 1) (σ.2.2.2 1) j → i = j
      intro i j hi hj e
      unfold va_up at e
      split at e
      · split at e
        · omega
        · have := iO j (by omega)
          omega
      · split at e
        · have := iO i (by omega)
          omega
        · exact h10 i j (by omega) (by omega) e
    · show ∀ t, t < σ.2.2.2 1 + 1 → ∃ i, i < σ.2.2.2 1 + 1 ∧ va_up (σ.2.1 1) (σ.2.2.2 1) (σ.2.2.2 1) i = t
      intro t ht
      by_cases e : t = σ.2.2.2 1
      · exact ⟨σ.2.2.2 1, by omega, by simp [va_up, e]⟩
      · obtain ⟨i, hi, hit⟩ := h11 t (by omega)
        exact ⟨i, by omega, by simp [va_up, show i ≠ σ.2.2.2 1 by omega, hit]⟩
    · show ∀ i, i < 24 → va_up (τ.2.1 1) (τ.2.2.2 1) (τ.2.2.2 1) i < 24
      intro i hi
      unfold va_up
      split
      · omega
      · exact h14 i hi
theorem tr_needs {σ τ : tcS} (h : tr_R σ τ) {t k : Nat} (ht : t < σ.2.2.2 1) (hk : k < 8) : (tm_needs τ t k).1 = (tc_needs σ t k).1 ∧ tr_R (tc_needs σ t k).2 (tm_needs τ t k).2 := by
  have hR := h
  obtain ⟨h1, h2, h3, h4, h5, h6, h7, h8, h9, h10, h11, h12, h13, h14⟩ := h
  obtain ⟨iP, iT, iN, iA, iR, iK, iO, iQ, iF, iB⟩ := h1
  obtain ⟨jP, jT, jN, jA, jR, jK, jO, jQ, jF, jB, jW⟩ := h2
  have e2 := h3 2 (by omega)
  unfold tc_needs tm_needs
  by_cases q : bt (σ.1 4 t) k = true ∨ 40 ≤ σ.2.2.2 2
  · rw [if_pos q, if_pos (q.elim (fun q => Or.inr (by rw [← h8 t k (by omega) hk]; exact q)) (fun q => Or.inl (by omega)))]
    exact ⟨rfl, hR⟩
  · rw [if_neg q, if_neg (fun z => q (z.elim (fun z => Or.inr (by omega)) (fun z => Or.inl (by rw [h8 t k (by omega) hk]; exact z))))]
    have hn : σ.2.2.2 2 < 40 := Nat.not_le.mp (fun z => q (Or.inr z))
    refine ⟨rfl, ⟨iP, iT, by show σ.2.2.2 2 + 1 ≤ 40; omega, iA, iR, iK, iO, iQ, iF, iB⟩, ⟨jP, jT, by show τ.2.2.2 2 + 1 ≤ 40; omega, jA, jR, jK, jO, jQ, jF, jB, ?_⟩, fun k2 hk2 => ?_, h4, h5, h6, h7, ?_, h9, h10, h11, h12, ?_, h14⟩
    · show ∀ i, i < τ.2.2.2 2 + 1 → va_up (τ.2.1 3) (τ.2.2.2 2) t i < 24 ∧ va_up (τ.2.1 4) (τ.2.2.2 2) k i < 8
      intro i hi
      unfold va_up
      by_cases e : i = τ.2.2.2 2
      · rw [if_pos e, if_pos e]
        omega
      · rw [if_neg e, if_neg e]
        exact jW i (by omega)
    · show va_up τ.2.2.2 2 (τ.2.2.2 2 + 1) k2 = va_up σ.2.2.2 2 (σ.2.2.2 2 + 1) k2
      unfold va_up
      split
      · rw [e2]
      · exact h3 k2 hk2
    · intro t2 k2 ht2 hk2
      show bt (upd (σ.1 4) t (σ.1 4 t ||| ((1 : Int32) <<< (nI k &&& 31))) t2) k2 = _
      refine Bool.eq_iff_iff.mpr ?_
      rw [tm_wants_eq]
      show _ ↔ ∃ j, j < τ.2.2.2 2 + 1 ∧ va_up (τ.2.1 3) (τ.2.2.2 2) t j = t2 ∧ va_up (τ.2.1 4) (τ.2.2.2 2) k j = k2
      have hw := h8 t2 k2 ht2 hk2
      have hw2 : bt (σ.1 4 t2) k2 = true ↔ ∃ j, j < τ.2.2.2 2 ∧ τ.2.1 3 j = t2 ∧ τ.2.1 4 j = k2 := by rw [hw, tm_wants_eq]
      have hl : bt (upd (σ.1 4) t (σ.1 4 t ||| ((1 : Int32) <<< (nI k &&& 31))) t2) k2 = true ↔ bt (σ.1 4 t2) k2 = true ∨ (t2 = t ∧ k2 = k) := by
        unfold upd
        by_cases e : t2 = t
        · rw [if_pos e, b_or, tc_one (by omega) (by omega), Bool.or_eq_true, decide_eq_true_eq, e]
          simp
        · rw [if_neg e]
          simp [e]
      rw [hl, hw2]
      constructor
      · rintro (⟨j, a, b, c⟩ | ⟨a, b⟩)
        · exact ⟨j, by omega, by simp [va_up, show j ≠ τ.2.2.2 2 by omega, b], by simp [va_up, show j ≠ τ.2.2.2 2 by omega, c]⟩
        · exact ⟨τ.2.2.2 2, by omega, by simp [va_up, a], by simp [va_up, b]⟩
      · rintro ⟨j, a, b, c⟩
        by_cases e : j = τ.2.2.2 2
        · right
          simp [va_up, e] at b c
          exact ⟨b.symm, c.symm⟩
        · left
          simp [va_up, e] at b c
          exact ⟨j, by omega, b, c⟩
    · show ∀ i, i < σ.2.2.2 2 + 1 → va_up (τ.2.1 3) (τ.2.2.2 2) t i < σ.2.2.2 1
      intro i hi
      unfold va_up
      split
      · exact ht
      · exact h13 i (by omega)
theorem tr_force {σ τ : tcS} (h : tr_R σ τ) {k : Nat} (hk : k < 8) {o : Option Nat} (ho : ∀ t, o = some t → t < 24) : tr_R (tc_s3 σ 0 (va_up (σ.2.2.1 0) k o)) (tc_s3 τ 0 (va_up (τ.2.2.1 0) k o)) := by
  obtain ⟨h1, h2, h3, h4, h5, h6, h7, h8, h9, h10, h11, h12, h13, h14⟩ := h
  obtain ⟨iP, iT, iN, iA, iR, iK, iO, iQ, iF, iB⟩ := h1
  obtain ⟨jP, jT, jN, jA, jR, jK, jO, jQ, jF, jB, jW⟩ := h2
  have key : ∀ (f : Nat → Option Nat), (∀ k t, f k = some t → t < 24) → ∀ k2 t, va_up f k o k2 = some t → t < 24 := by
    intro f hf k2 t e
    unfold va_up at e
    split at e
    · exact ho t e
    · exact hf k2 t e
  refine ⟨⟨iP, iT, iN, iA, iR, iK, iO, iQ, key _ iF, iB⟩, ⟨jP, jT, jN, jA, jR, jK, jO, jQ, key _ jF, jB, jW⟩, h3, h4, h5, h6, fun k2 hk2 => ⟨(h7 k2 hk2).1, (h7 k2 hk2).2.1, ?_, (h7 k2 hk2).2.2.2⟩, ?_, h9, h10, h11, h12, h13, h14⟩
  · show va_up (τ.2.2.1 0) k o k2 = va_up (σ.2.2.1 0) k o k2
    unfold va_up
    split
    · rfl
    · exact (h7 k2 hk2).2.2.1
  · intro t k2 ht hk2
    show bt (σ.1 4 t) k2 = _
    rw [h8 t k2 ht hk2]
    refine (tm_wants_cg (τ := τ) ?_ ?_ ?_ t k2).symm <;> rfl
/-! ask and drop -/
theorem tr_place {σ τ : tcS} (h : tr_R σ τ) (k : Nat) : tm_place τ k = tc_find σ k := by
  obtain ⟨h1, h2, h3, h4, h5, h6, h7, h8, h9, h10, h11, h12, h13, h14⟩ := h
  have e3 := h3 3 (by omega)
  have key : ∀ (n i : Nat) (g : Option Nat), i + n = σ.2.2.2 3 → (g = none ∨ ∀ j, i ≤ j → j < i + n → ¬ σ.2.1 2 j = k) → tm_pf τ k n i g = if g = none then tc_ff (fun i => decide (σ.2.1 2 i = k)) n i else g := by
    intro n
    induction n with
    | zero =>
      intro i g _ _
      unfold tm_pf tc_ff
      split
      · rename_i e
        exact e
      · rfl
    | succ n ih =>
      intro i g hi hg
      unfold tm_pf
      rw [h6 i (by omega)]
      by_cases e : σ.2.1 2 i = k
      · rcases hg with hg | hg
        · rw [if_pos e, ih (i + 1) (some i) (by omega) (Or.inr (fun j a b c => by
            have := h12 i j (by omega) (by omega) (e.trans c.symm)
            omega)), if_neg (by simp), if_pos hg, tc_ff_yes (decide_eq_true e)]
        · exact absurd e (hg i (Nat.le_refl _) (by omega))
      · rw [if_neg e, ih (i + 1) g (by omega) (hg.imp id (fun q j a b => q j (by omega) (by omega)))]
        rw [tc_ff_no (p := fun i => decide (σ.2.1 2 i = k)) (decide_eq_false e)]
  unfold tm_place tc_find
  rw [e3, key (σ.2.2.2 3) 0 none (by omega) (Or.inl rfl), if_pos rfl]
/-- no more numbers than places -/
theorem tr_pig : ∀ (m n : Nat) (f : Nat → Nat), (∀ i, i < n → f i < m) → (∀ i j, i < n → j < n → f i = f j → i = j) → n ≤ m
  | 0, n, f, h, _ => by
    rcases Nat.eq_zero_or_pos n with q | q
    · omega
    · exact absurd (h 0 q) (by omega)
  | m + 1, n, f, h, hi => by
    by_cases q : ∃ i0, i0 < n ∧ f i0 = m
    · obtain ⟨i0, hi0, hf⟩ := q
      have := tr_pig m (n - 1) (fun i => if i = i0 then f (n - 1) else f i) (fun i hi' => by
        show (if i = i0 then f (n - 1) else f i) < m
        split
        · rename_i e
          have h1 := h (n - 1) (by omega)
          have h2 : f (n - 1) ≠ m := fun z => by
            have := hi (n - 1) i0 (by omega) hi0 (z.trans hf.symm)
            omega
          omega
        · rename_i e
          have h1 := h i (by omega)
          have h2 : f i ≠ m := fun z => e (hi i i0 (by omega) hi0 (z.trans hf.symm))
          omega) (fun i j hi' hj' e => by
        have e : (if i = i0 then f (n - 1) else f i) = (if j = i0 then f (n - 1) else f j) := e
        split at e
        · split at e
          · omega
          · have := hi (n - 1) j (by omega) (by omega) e
            omega
        · split at e
          · have := hi i (n - 1) (by omega) (by omega) e
            omega
          · exact hi i j (by omega) (by omega) e)
      omega
    · have := tr_pig m n f (fun i hi' => by
        have h1 := h i hi'
        have h2 : f i ≠ m := fun z => q ⟨i, hi', z⟩
        omega) hi
      omega
theorem tr_lt8 {σ τ : tcS} (h : tr_R σ τ) {k : Nat} (hk : k < 8) (hf : tc_find σ k = none) : σ.2.2.2 3 < 8 := by
  obtain ⟨h1, h2, h3, h4, h5, h6, h7, h8, h9, h10, h11, h12, h13, h14⟩ := h
  obtain ⟨iP, iT, iN, iA, iR, iK, iO, iQ, iF, iB⟩ := h1
  have hn : ∀ i, i < σ.2.2.2 3 → ¬ σ.2.1 2 i = k := fun i hi => of_decide_eq_false (tc_ff_none.mp hf i (Nat.zero_le _) (by omega))
  have := tr_pig 8 (σ.2.2.2 3 + 1) (fun i => if i = σ.2.2.2 3 then k else σ.2.1 2 i) (fun i hi => by
    show (if i = σ.2.2.2 3 then k else σ.2.1 2 i) < 8
    split
    · exact hk
    · exact iQ i (by omega)) (fun i j hi hj e => by
    have e : (if i = σ.2.2.2 3 then k else σ.2.1 2 i) = (if j = σ.2.2.2 3 then k else σ.2.1 2 j) := e
    split at e
    · split at e
      · omega
      · exact absurd e.symm (hn j (by omega))
    · split at e
      · exact absurd e (hn i (by omega))
      · exact h12 i j (by omega) (by omega) e)
  omega
theorem tr_put {σ τ : tcS} (h : tr_R σ τ) {k : Nat} (hk : k < 8) (v b : Int32) (hb : b = 0 ∨ b = 1) : tr_R (tc_put σ k v b) (tm_put τ k v b) := by
  have hp := tr_place h k
  have h8' := tr_lt8 h hk
  obtain ⟨h1, h2, h3, h4, h5, h6, h7, h8, h9, h10, h11, h12, h13, h14⟩ := h
  obtain ⟨iP, iT, iN, iA, iR, iK, iO, iQ, iF, iB⟩ := h1
  obtain ⟨jP, jT, jN, jA, jR, jK, jO, jQ, jF, jB, jW⟩ := h2
  have e3 := h3 3 (by omega)
  have key : ∀ (f : Nat → Int32), (∀ k, f k = 0 ∨ f k = 1) → ∀ k2, upd f k b k2 = 0 ∨ upd f k b k2 = 1 := by
    intro f hf k2
    unfold upd
    split
    · exact hb
    · exact hf k2
  have key7 : ∀ k2, k2 < 8 → upd (τ.1 10) k v k2 = upd (σ.1 10) k v k2 ∧ upd (τ.1 11) k b k2 = upd (σ.1 11) k b k2 ∧ τ.2.2.1 0 k2 = σ.2.2.1 0 k2 ∧ τ.2.2.1 1 k2 = σ.2.2.1 1 k2 := by
    intro k2 hk2
    obtain ⟨a1, a2, a3, a4⟩ := h7 k2 hk2
    unfold upd
    refine ⟨?_, ?_, a3, a4⟩
    · split
      · rfl
      · exact a1
    · split
      · rfl
      · exact a2
  unfold tc_put tm_put
  by_cases q : tc_find σ k = none
  · have hA := h8' q
    rw [if_pos ⟨q, hA⟩, if_pos (by rw [hp]; exact q)]
    have hn : ∀ i, i < σ.2.2.2 3 → ¬ σ.2.1 2 i = k := fun i hi => of_decide_eq_false (tc_ff_none.mp q i (Nat.zero_le _) (by omega))
    have kq : ∀ (f : Nat → Nat) (n : Nat), (∀ i, i < n → f i < 8) → ∀ i, i < n + 1 → va_up f n k i < 8 := by
      intro f n hf i hi
      unfold va_up
      split
      · exact hk
      · exact hf i (by omega)
    refine ⟨⟨iP, iT, iN, by show σ.2.2.2 3 + 1 ≤ 8; omega, iR, iK, iO, kq _ _ iQ, iF, key _ iB⟩, ⟨jP, jT, jN, by show τ.2.2.2 3 + 1 ≤ 8; omega, jR, jK, jO, kq _ _ jQ, jF, key _ jB, jW⟩, fun k2 hk2 => ?_, h4, h5, ?_, key7, ?_, h9, h10, h11, ?_, h13, h14⟩
    · show va_up τ.2.2.2 3 (τ.2.2.2 3 + 1) k2 = va_up σ.2.2.2 3 (σ.2.2.2 3 + 1) k2
      unfold va_up
      split
      · rw [e3]
      · exact h3 k2 hk2
    · show ∀ i, i < σ.2.2.2 3 + 1 → va_up (τ.2.1 2) (τ.2.2.2 3) k i = va_up (σ.2.1 2) (σ.2.2.2 3) k i
      rw [e3]
      exact tr_upv h6
    · intro t k2 ht hk2
      show bt (σ.1 4 t) k2 = _
      rw [h8 t k2 ht hk2]
      refine (tm_wants_cg (τ := τ) ?_ ?_ ?_ t k2).symm <;> rfl
    · show ∀ i j, i < σ.2.2.2 3 + 1 → j < σ.2.2.2 3 + 1 → va_up (σ.2.1 2) (σ.2.2.2 3) k i = va_up (σ.2.1 2) (σ.2.2.2 3) k j → i = j
      intro i j hi hj e
      unfold va_up at e
      split at e
      · split at e
        · omega
        · exact absurd e.symm (hn j (by omega))
      · split at e
        · exact absurd e (hn i (by omega))
        · exact h12 i j (by omega) (by omega) e
  · rw [if_neg (fun z => q z.1), if_neg (by rw [hp]; exact q)]
    refine ⟨⟨iP, iT, iN, iA, iR, iK, iO, iQ, iF, key _ iB⟩, ⟨jP, jT, jN, jA, jR, jK, jO, jQ, jF, key _ jB, jW⟩, h3, h4, h5, h6, key7, ?_, h9, h10, h11, h12, h13, h14⟩
    intro t k2 ht hk2
    show bt (σ.1 4 t) k2 = _
    rw [h8 t k2 ht hk2]
    refine (tm_wants_cg (τ := τ) ?_ ?_ ?_ t k2).symm <;> rfl
/-- shifting down by one: what it leaves and what it makes -/
theorem tr_up2 {c : Nat} {f : Nat → tcS → tcS} (hf : ∀ j ρ, f j ρ = tc_s2 ρ c (va_up (ρ.2.1 c) j (ρ.2.1 c (j + 1)))) : ∀ (n j : Nat) (ρ : tcS), tc_up f n j ρ = tc_s2 ρ c (fun i => if j ≤ i ∧ i < j + n then ρ.2.1 c (i + 1) else ρ.2.1 c i)
  | 0, j, ρ => by
    have e : (fun i => if j ≤ i ∧ i < j + 0 then ρ.2.1 c (i + 1) else ρ.2.1 c i) = ρ.2.1 c := by
      funext i
      rw [if_neg (by omega)]
    rw [e]
    show ρ = (ρ.1, va_up ρ.2.1 c (ρ.2.1 c), ρ.2.2)
    have e2 : va_up ρ.2.1 c (ρ.2.1 c) = ρ.2.1 := by
      funext k
      unfold va_up
      split
      · rename_i q
        rw [q]
      · rfl
    rw [e2]
  | n + 1, j, ρ => by
    show tc_up f n (j + 1) (f j ρ) = _
    rw [tr_up2 hf n (j + 1) (f j ρ), hf j ρ]
    have hc : (tc_s2 ρ c (va_up (ρ.2.1 c) j (ρ.2.1 c (j + 1)))).2.1 c = va_up (ρ.2.1 c) j (ρ.2.1 c (j + 1)) := by
      show va_up ρ.2.1 c _ c = _
      simp [va_up]
    rw [hc]
    have e : (fun i => if j + 1 ≤ i ∧ i < j + 1 + n then va_up (ρ.2.1 c) j (ρ.2.1 c (j + 1)) (i + 1) else va_up (ρ.2.1 c) j (ρ.2.1 c (j + 1)) i) = (fun i => if j ≤ i ∧ i < j + (n + 1) then ρ.2.1 c (i + 1) else ρ.2.1 c i) := by
      funext i
      by_cases q : i = j
      · subst q
        rw [if_neg (by omega), if_pos (by omega)]
        simp [va_up]
      · by_cases q2 : j ≤ i ∧ i < j + (n + 1)
        · rw [if_pos (by omega), if_pos q2]
          simp [va_up, show ¬ (i + 1 = j) by omega]
        · rw [if_neg (by omega), if_neg q2]
          simp [va_up, q]
    rw [e]
    show (ρ.1, va_up (va_up ρ.2.1 c _) c _, ρ.2.2) = (ρ.1, va_up ρ.2.1 c _, ρ.2.2)
    rw [bx_uu]
theorem tr_drop {σ τ : tcS} (h : tr_R σ τ) {k : Nat} (hk : k < 8) : (tm_rem τ k).1 = (tc_rem σ k).1 ∧ tr_R (tc_rem σ k).2 (tm_rem τ k).2 := by
  have hR := h
  have hp := tr_place h k
  unfold tc_rem tm_rem
  rw [hp]
  cases hf : tc_find σ k with
  | none => exact ⟨rfl, hR⟩
  | some i =>
    have hb := tc_find_b h.1 hf
    obtain ⟨h1, h2, h3, h4, h5, h6, h7, h8, h9, h10, h11, h12, h13, h14⟩ := h
    obtain ⟨iP, iT, iN, iA, iR, iK, iO, iQ, iF, iB⟩ := h1
    obtain ⟨jP, jT, jN, jA, jR, jK, jO, jQ, jF, jB, jW⟩ := h2
    have e3 := h3 3 (by omega)
    refine ⟨rfl, ?_⟩
    show tr_R (tc_up tc_rmB (σ.2.2.2 3 - 1 - i) i (tc_s4 σ 3 (σ.2.2.2 3 - 1))) (tm_sub (tc_up tm_rmB (τ.2.2.2 3 - 1 - i) i τ))
    rw [tr_up2 (c := 2) (f := tc_rmB) (fun _ _ => rfl), tr_up2 (c := 2) (f := tm_rmB) (fun _ _ => rfl)]
    have kq : ∀ (f : Nat → Nat) (n m : Nat), (∀ i, i < n → f i < 8) → i + m = n - 1 → ∀ i2, i2 < n - 1 → (if i ≤ i2 ∧ i2 < i + m then f (i2 + 1) else f i2) < 8 := by
      intro f n m hf hm i2 hi2
      split
      · exact hf (i2 + 1) (by omega)
      · exact hf i2 (by omega)
    refine ⟨⟨iP, iT, iN, by show σ.2.2.2 3 - 1 ≤ 8; omega, iR, iK, iO, kq (σ.2.1 2) (σ.2.2.2 3) (σ.2.2.2 3 - 1 - i) iQ (by omega), iF, iB⟩, ⟨jP, jT, jN, by show τ.2.2.2 3 - 1 ≤ 8; omega, jR, jK, jO, kq (τ.2.1 2) (τ.2.2.2 3) (τ.2.2.2 3 - 1 - i) jQ (by omega), jF, jB, jW⟩, fun k2 hk2 => ?_, h4, h5, ?_, h7, ?_, h9, h10, h11, ?_, h13, h14⟩
    · show va_up τ.2.2.2 3 (τ.2.2.2 3 - 1) k2 = va_up σ.2.2.2 3 (σ.2.2.2 3 - 1) k2
      unfold va_up
      split
      · rw [e3]
      · exact h3 k2 hk2
    · show ∀ i2, i2 < σ.2.2.2 3 - 1 → (if i ≤ i2 ∧ i2 < i + (τ.2.2.2 3 - 1 - i) then τ.2.1 2 (i2 + 1) else τ.2.1 2 i2) = (if i ≤ i2 ∧ i2 < i + (σ.2.2.2 3 - 1 - i) then σ.2.1 2 (i2 + 1) else σ.2.1 2 i2)
      intro i2 hi2
      rw [e3]
      split
      · exact h6 (i2 + 1) (by omega)
      · exact h6 i2 (by omega)
    · intro t k2 ht hk2
      show bt (σ.1 4 t) k2 = _
      rw [h8 t k2 ht hk2]
      refine (tm_wants_cg (τ := τ) ?_ ?_ ?_ t k2).symm <;> rfl
    · show ∀ a b, a < σ.2.2.2 3 - 1 → b < σ.2.2.2 3 - 1 → (if i ≤ a ∧ a < i + (σ.2.2.2 3 - 1 - i) then σ.2.1 2 (a + 1) else σ.2.1 2 a) = (if i ≤ b ∧ b < i + (σ.2.2.2 3 - 1 - i) then σ.2.1 2 (b + 1) else σ.2.1 2 b) → a = b
      intro a b ha hb2 e
      split at e
      · split at e
        · have := h12 (a + 1) (b + 1) (by omega) (by omega) e
          omega
        · have := h12 (a + 1) b (by omega) (by omega) e
          omega
      · split at e
        · have := h12 a (b + 1) (by omega) (by omega) e
          omega
        · exact h12 a b (by omega) (by omega) e
/-! the reads -/
theorem tr_cell {σ τ : tcS} (h : tr_R σ τ) (i w : Int32) : tm_row τ i w = tc_cell σ i w := by
  obtain ⟨h1, h2, h3, h4, h5, h6, h7, h8, h9, h10, h11, h12, h13, h14⟩ := h
  have e4 := h3 4 (by omega)
  have iR := h1.2.2.2.2.1
  unfold tm_row tc_cell
  rw [e4]
  cases hq : tc_isN i (σ.2.2.2 4)
  · rw [if_neg (by simp), if_neg (by simp)]
  · obtain ⟨a, ha, ea⟩ := tc_isN_ex (by omega) hq
    obtain ⟨g1, g2, g3, g4⟩ := h9 a ha
    subst ea
    rw [if_pos rfl, nI_clamp (by omega)]
    cases hw : tc_isN w 4
    · rw [if_neg (show ¬ (true = true ∧ false = true) by simp)]
      have no : ∀ n : Nat, n < 4 → ¬ w = nI n := fun n hn e => by
        rw [e, tc_isN_nI hn (by omega)] at hw
        cases hw
      rw [if_neg (show ¬ w = 0 from no 0 (by omega)), if_neg (show ¬ w = 1 from no 1 (by omega)), if_neg (show ¬ w = 2 from no 2 (by omega)), if_neg (show ¬ w = 3 from no 3 (by omega))]
    · obtain ⟨b, hb, eb⟩ := tc_isN_ex (by omega) hw
      subst eb
      rw [if_pos (show true = true ∧ true = true from ⟨rfl, rfl⟩), nI_clamp (by omega)]
      rcases (show b = 0 ∨ b = 1 ∨ b = 2 ∨ b = 3 by omega) with rfl | rfl | rfl | rfl
      · rw [if_pos (show nI 0 = 0 from rfl)]
        exact g1.symm
      · rw [if_neg (show ¬ nI 1 = 0 by decide), if_pos (show nI 1 = 1 from rfl)]
        exact g2.symm
      · rw [if_neg (show ¬ nI 2 = 0 by decide), if_neg (show ¬ nI 2 = 1 by decide), if_pos (show nI 2 = 2 from rfl)]
        exact g3.symm
      · rw [if_neg (show ¬ nI 3 = 0 by decide), if_neg (show ¬ nI 3 = 1 by decide), if_neg (show ¬ nI 3 = 2 by decide), if_pos (show nI 3 = 3 from rfl)]
        exact g4.symm
