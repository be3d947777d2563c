/-! LEADS: what a tool leads to, by one step or more -/
def rg_tc (E : Nat → Nat → Prop) (a b : Nat) : Prop := ∀ S : Nat → Nat → Prop, (∀ x y, E x y → S x y) → (∀ x y z, S x y → S y z → S x z) → S a b
theorem rg_e {E : Nat → Nat → Prop} {a b : Nat} (h : E a b) : rg_tc E a b := fun _ h1 _ => h1 a b h
theorem rg_t {E : Nat → Nat → Prop} {a b c : Nat} (h : rg_tc E a b) (k : rg_tc E b c) : rg_tc E a c := fun S h1 h2 => h2 a b c (h S h1 h2) (k S h1 h2)
theorem tc_l0_up : ∀ (n j : Nat) (ρ : tcS), (∀ k, k ≠ 9 → (tc_up tc_l0 n j ρ).1 k = ρ.1 k) ∧ (∀ t, j ≤ t → t < j + n → (tc_up tc_l0 n j ρ).1 9 t = tc_steps ρ t) ∧ (∀ t, t < j → (tc_up tc_l0 n j ρ).1 9 t = ρ.1 9 t)
  | 0, j, ρ => ⟨fun _ _ => rfl, fun t h1 h2 => absurd h2 (by omega), fun _ _ => rfl⟩
  | n + 1, j, ρ => by
    obtain ⟨h1, h2, h3⟩ := tc_l0_up n (j + 1) (tc_l0 j ρ)
    have e9 : (tc_l0 j ρ).1 9 = upd (ρ.1 9) j (tc_steps ρ j) := rfl
    have er : tc_up tc_l0 (n + 1) j ρ = tc_up tc_l0 n (j + 1) (tc_l0 j ρ) := rfl
    rw [er]
    refine ⟨fun k a => ?_, fun t a b => ?_, fun t a => ?_⟩
    · rw [h1 k a]
      show va_up ρ.1 9 _ k = ρ.1 k
      simp [va_up, a]
    · by_cases q : t = j
      · subst q
        rw [h3 t (by omega), e9, tc_upd_s]
      · exact h2 t (by omega) (by omega)
    · rw [h3 t (by omega), e9, tc_upd_n (by omega)]
def tc_wr (ρ : tcS) (m t : Nat) : Int32 := if bt (ρ.1 9 t) m = true then ρ.1 9 t ||| ρ.1 9 m else ρ.1 9 t
theorem tc_wr_m (ρ : tcS) (m : Nat) : tc_wr ρ m m = ρ.1 9 m := by
  unfold tc_wr
  split
  · refine b_ext (fun i _ => ?_)
    rw [b_or]
    simp
  · rfl
theorem tc_l1_9 (m j : Nat) (ρ : tcS) (t : Nat) : (tc_l1 m j ρ).1 9 t = if t = j then tc_wr ρ m j else ρ.1 9 t := by
  unfold tc_l1 tc_wr
  by_cases h : bt (ρ.1 9 j) m = true
  · rw [if_pos h, if_pos h]
    show upd (ρ.1 9) j (ρ.1 9 j ||| ρ.1 9 m) t = _
    rfl
  · rw [if_neg h, if_neg h]
    split
    · rename_i e
      rw [e]
    · rfl
theorem tc_l1_up (m : Nat) : ∀ (n j : Nat) (ρ : tcS) (t : Nat), (tc_up (tc_l1 m) n j ρ).1 9 t = if j ≤ t ∧ t < j + n then tc_wr ρ m t else ρ.1 9 t
  | 0, j, ρ, t => by
    rw [if_neg (by omega)]
    rfl
  | n + 1, j, ρ, t => by
    rw [show tc_up (tc_l1 m) (n + 1) j ρ = tc_up (tc_l1 m) n (j + 1) (tc_l1 m j ρ) from rfl, tc_l1_up m n (j + 1) (tc_l1 m j ρ) t]
    have em : (tc_l1 m j ρ).1 9 m = ρ.1 9 m := by
      rw [tc_l1_9]
      split
      · rename_i e
        rw [← e, tc_wr_m]
      · rfl
    by_cases q : t = j
    · subst q
      rw [if_neg (by omega), if_pos (by omega), tc_l1_9, if_pos rfl]
    · by_cases q2 : j ≤ t ∧ t < j + (n + 1)
      · rw [if_pos (by omega), if_pos q2]
        unfold tc_wr
        rw [em, tc_l1_9, if_neg q]
      · rw [if_neg (by omega), if_neg q2, tc_l1_9, if_neg q]
theorem tc_l1_keep (m : Nat) (k : Nat) (h : k ≠ 9) : ∀ (n j : Nat) (ρ : tcS), (tc_up (tc_l1 m) n j ρ).1 k = ρ.1 k
  | 0, _, _ => rfl
  | n + 1, j, ρ => by
    rw [show tc_up (tc_l1 m) (n + 1) j ρ = tc_up (tc_l1 m) n (j + 1) (tc_l1 m j ρ) from rfl, tc_l1_keep m k h n (j + 1) (tc_l1 m j ρ)]
    unfold tc_l1
    split
    · show va_up ρ.1 9 _ k = ρ.1 k
      simp [va_up, h]
    · rfl
theorem tc_l2_bt {m : Nat} {ρ : tcS} {t u : Nat} (ht : t < ρ.2.2.2 1) : bt ((tc_l2 m ρ).1 9 t) u = true ↔ bt (ρ.1 9 t) u = true ∨ (bt (ρ.1 9 t) m = true ∧ bt (ρ.1 9 m) u = true) := by
  unfold tc_l2
  rw [tc_l1_up, if_pos (by omega)]
  unfold tc_wr
  by_cases h : bt (ρ.1 9 t) m = true
  · rw [if_pos h, b_or, Bool.or_eq_true]
    simp [h]
  · rw [if_neg h]
    simp [h]
/-- the passes: sound, growing, closed for the middles gone through -/
theorem tc_l2_up (T : Nat) (E : Nat → Nat → Prop) : ∀ (n m : Nat) (ρ : tcS), ρ.2.2.2 1 = T → m + n = T →
    (∀ t u, t < T → bt (ρ.1 9 t) u = true → rg_tc E t u) → (∀ j t u, j < m → t < T → bt (ρ.1 9 t) j = true → bt (ρ.1 9 j) u = true → bt (ρ.1 9 t) u = true) →
    (∀ t u, t < T → bt ((tc_up tc_l2 n m ρ).1 9 t) u = true → rg_tc E t u) ∧ (∀ t u, t < T → bt (ρ.1 9 t) u = true → bt ((tc_up tc_l2 n m ρ).1 9 t) u = true) ∧
    (∀ j t u, j < T → t < T → bt ((tc_up tc_l2 n m ρ).1 9 t) j = true → bt ((tc_up tc_l2 n m ρ).1 9 j) u = true → bt ((tc_up tc_l2 n m ρ).1 9 t) u = true)
  | 0, m, ρ, hT, hm, h1, h2 => by
    have e : m = T := by omega
    subst e
    exact ⟨h1, fun _ _ _ q => q, h2⟩
  | n + 1, m, ρ, hT, hm, h1, h2 => by
    rw [show tc_up tc_l2 (n + 1) m ρ = tc_up tc_l2 n (m + 1) (tc_l2 m ρ) from rfl]
    have hb : ∀ t u, t < T → (bt ((tc_l2 m ρ).1 9 t) u = true ↔ bt (ρ.1 9 t) u = true ∨ (bt (ρ.1 9 t) m = true ∧ bt (ρ.1 9 m) u = true)) := fun t u ht => tc_l2_bt (by omega)
    have hmT : m < T := by omega
    obtain ⟨g1, g2, g3⟩ := tc_l2_up T E n (m + 1) (tc_l2 m ρ) (by rw [(tc_l2_k m ρ).1]; exact hT) (by omega)
      (fun t u ht q => by
        rcases (hb t u ht).mp q with q | ⟨q1, q2⟩
        · exact h1 t u ht q
        · exact rg_t (h1 t m ht q1) (h1 m u hmT q2))
      (fun j t u hj ht q1 q2 => by
        have hjT : j < T := by omega
        rw [hb t j ht] at q1
        rw [hb j u hjT] at q2
        rw [hb t u ht]
        by_cases e : j = m
        · subst e
          have a1 : bt (ρ.1 9 t) j = true := by rcases q1 with q | q; exact q; exact q.1
          have a2 : bt (ρ.1 9 j) u = true := by rcases q2 with q | q; exact q; exact q.2
          exact Or.inr ⟨a1, a2⟩
        · have hjm : j < m := by omega
          rcases q1 with q1 | ⟨q1, q3⟩
          · rcases q2 with q2 | ⟨q2, q4⟩
            · exact Or.inl (h2 j t u hjm ht q1 q2)
            · exact Or.inr ⟨h2 j t m hjm ht q1 q2, q4⟩
          · rcases q2 with q2 | ⟨q2, q4⟩
            · exact Or.inr ⟨q1, h2 j m u hjm hmT q3 q2⟩
            · exact Or.inr ⟨q1, q4⟩)
    exact ⟨g1, fun t u ht q => g2 t u ht ((hb t u ht).mpr (Or.inl q)), g3⟩
/-- LEADS: the closure of the single steps -/
theorem tc_leads_bt {σ : tcS} {t u : Nat} (ht : t < σ.2.2.2 1) (hs : ∀ a b, bt (tc_steps σ a) b = true → b < σ.2.2.2 1) : bt ((tc_leads σ).1 9 t) u = true ↔ rg_tc (fun a b => a < σ.2.2.2 1 ∧ bt (tc_steps σ a) b = true) t u := by
  obtain ⟨k1, k2, k3⟩ := tc_l0_up (σ.2.2.2 1) 0 σ
  have hk := tc_up_k1 tc_l0_k (σ.2.2.2 1) 0 σ
  have e9 : ∀ a, a < σ.2.2.2 1 → (tc_up tc_l0 (σ.2.2.2 1) 0 σ).1 9 a = tc_steps σ a := fun a ha => k2 a (by omega) (by omega)
  obtain ⟨g1, g2, g3⟩ := tc_l2_up (σ.2.2.2 1) (fun a b => a < σ.2.2.2 1 ∧ bt (tc_steps σ a) b = true) (σ.2.2.2 1) 0 (tc_up tc_l0 (σ.2.2.2 1) 0 σ) (by rw [hk.1]) (by omega)
    (fun a b ha q => rg_e ⟨ha, by rw [e9 a ha] at q; exact q⟩) (fun j _ _ hj => absurd hj (by omega))
  refine ⟨g1 t u ht, fun h => ?_⟩
  have h1 := h (fun a b => a < σ.2.2.2 1 ∧ b < σ.2.2.2 1 ∧ bt ((tc_leads σ).1 9 a) b = true) (fun a b q => ⟨q.1, hs a b q.2, g2 a b q.1 (by rw [e9 a q.1]; exact q.2)⟩)
    (fun a b c q1 q2 => ⟨q1.1, q2.2.1, g3 b a c q1.2.1 q1.1 q1.2.2 q2.2.2⟩)
  exact h1.2.2
theorem tc_steps_bt {σ : tcS} (hT : σ.2.2.2 1 ≤ 24) {t u : Nat} : bt (tc_steps σ t) u = true ↔ u < σ.2.2.2 1 ∧ bt (σ.1 4 t) (σ.2.1 0 u) = true ∧ (∃ p, bt (σ.1 6 u) p = true ∧ bt (tc_unb σ t) p = true) ∧ ∃ q, bt (tc_unb σ u) q = true := by
  have key : ∀ n, ((bt (σ.1 4 t) (σ.2.1 0 n) && (!decide (σ.1 6 n &&& tc_unb σ t = 0) && !decide (tc_unb σ n = 0))) = true) ↔ bt (σ.1 4 t) (σ.2.1 0 n) = true ∧ (∃ p, bt (σ.1 6 n) p = true ∧ bt (tc_unb σ t) p = true) ∧ ∃ q, bt (tc_unb σ n) q = true := by
    intro n
    rw [Bool.and_eq_true, Bool.and_eq_true, Bool.not_eq_true', Bool.not_eq_true', decide_eq_false_iff_not, decide_eq_false_iff_not, tc_nz, tc_nz]
    have : (∃ i, bt (σ.1 6 n &&& tc_unb σ t) i = true) ↔ ∃ p, bt (σ.1 6 n) p = true ∧ bt (tc_unb σ t) p = true := by
      refine ⟨fun ⟨i, hi⟩ => ⟨i, ?_⟩, fun ⟨i, hi⟩ => ⟨i, ?_⟩⟩
      · rw [b_and, Bool.and_eq_true] at hi
        exact hi
      · rw [b_and, Bool.and_eq_true]
        exact hi
    rw [this]
  unfold tc_steps
  constructor
  · intro h
    have h32 := tc_bt_lt h
    rw [tc_mk_bt (by omega) h32, Bool.and_eq_true, decide_eq_true_eq] at h
    exact ⟨h.1, (key u).mp h.2⟩
  · intro h
    rw [tc_mk_bt (by omega) (by omega), Bool.and_eq_true, decide_eq_true_eq]
    exact ⟨h.1, (key u).mpr h.2⟩
