/-! ===== Int32 by its bits: bt x i ===== -/
def bt (x : Int32) (i : Nat) : Bool := x.toBitVec.getLsbD i
theorem b_ext {x y : Int32} (h : ∀ i, i < 32 → bt x i = bt y i) : x = y := Int32.toBitVec_inj.mp (BitVec.eq_of_getLsbD_eq (fun i hi => h i hi))
theorem b_or (x y : Int32) (i : Nat) : bt (x ||| y) i = (bt x i || bt y i) := by unfold bt; rw [Int32.toBitVec_or, BitVec.getLsbD_or]
theorem b_and (x y : Int32) (i : Nat) : bt (x &&& y) i = (bt x i && bt y i) := by unfold bt; rw [Int32.toBitVec_and, BitVec.getLsbD_and]
theorem b_xor (x y : Int32) (i : Nat) : bt (x ^^^ y) i = (bt x i ^^ bt y i) := by unfold bt; rw [Int32.toBitVec_xor, BitVec.getLsbD_xor]
theorem b_big {x : Int32} {i : Nat} (h : 32 ≤ i) : bt x i = false := BitVec.getLsbD_of_ge _ _ h
theorem b_255 (i : Nat) : bt 255 i = decide (i < 8) := by
  rcases Nat.lt_or_ge i 32 with h | h
  · exact (by decide +kernel : ∀ i, i < 32 → bt 255 i = decide (i < 8)) i h
  · rw [b_big h, decide_eq_false (by omega)]
theorem b_65535 (i : Nat) : bt 65535 i = decide (i < 16) := by
  rcases Nat.lt_or_ge i 32 with h | h
  · exact (by decide +kernel : ∀ i, i < 32 → bt 65535 i = decide (i < 16)) i h
  · rw [b_big h, decide_eq_false (by omega)]
theorem b_m1 : ∀ i, i < 32 → bt (-1) i = true := by decide +kernel
theorem b_0 (i : Nat) : bt 0 i = false := BitVec.getLsbD_zero
theorem s_l : ∀ n, n < 32 → ((nI n &&& 31).toBitVec.smod 32).toNat = n := by decide +kernel
theorem s_u : ∀ n, n < 32 → (((nI n).toUInt32 &&& Int32.toUInt32 31).toBitVec % 32).toNat = n := by decide +kernel
theorem b_shl (n : Nat) (hn : n < 32) (x : Int32) {i : Nat} (hi : i < 32) : bt (x <<< (nI n &&& 31)) i = (decide (n ≤ i) && bt x (i - n)) := by
  unfold bt
  rw [Int32.toBitVec_shiftLeft]
  show (x.toBitVec <<< ((nI n &&& 31).toBitVec.smod 32).toNat).getLsbD i = _
  rw [s_l n hn, BitVec.getLsbD_shiftLeft]
  rcases Nat.lt_or_ge i n with h | h
  · simp [h, Nat.not_le.mpr h]
  · simp [hi, h, Nat.not_lt.mpr h]
theorem b_ushr (n : Nat) (hn : n < 32) (x : Int32) (i : Nat) : bt ((x.toUInt32 >>> ((nI n).toUInt32 &&& Int32.toUInt32 31)).toInt32) i = bt x (n + i) := by
  show (x.toUInt32 >>> ((nI n).toUInt32 &&& Int32.toUInt32 31)).toBitVec.getLsbD i = x.toUInt32.toBitVec.getLsbD (n + i)
  rw [UInt32.toBitVec_shiftRight]
  show (x.toUInt32.toBitVec >>> (((nI n).toUInt32 &&& Int32.toUInt32 31).toBitVec % 32).toNat).getLsbD i = _
  rw [s_u n hn, BitVec.getLsbD_ushiftRight]
theorem b_sshr (n : Nat) (hn : n < 32) (x : Int32) {i : Nat} (hi : i < 32) : bt (x >>> (nI n &&& 31)) i = if n + i < 32 then bt x (n + i) else bt x 31 := by
  unfold bt
  rw [Int32.toBitVec_shiftRight]
  show (x.toBitVec.sshiftRight ((nI n &&& 31).toBitVec.smod 32).toNat).getLsbD i = _
  rw [s_l n hn, BitVec.getLsbD_sshiftRight, BitVec.msb_eq_getLsbD_last]
  simp [hi]
theorem b_shl8 (x : Int32) {i : Nat} (hi : i < 32) : bt (x <<< ((8 : Int32) &&& 31)) i = (decide (8 ≤ i) && bt x (i - 8)) := b_shl 8 (by omega) x hi
theorem b_shl16 (x : Int32) {i : Nat} (hi : i < 32) : bt (x <<< ((16 : Int32) &&& 31)) i = (decide (16 ≤ i) && bt x (i - 16)) := b_shl 16 (by omega) x hi
theorem b_shl24 (x : Int32) {i : Nat} (hi : i < 32) : bt (x <<< ((24 : Int32) &&& 31)) i = (decide (24 ≤ i) && bt x (i - 24)) := b_shl 24 (by omega) x hi
theorem b_sshr8 (x : Int32) {i : Nat} (hi : i < 32) : bt (x >>> ((8 : Int32) &&& 31)) i = if 8 + i < 32 then bt x (8 + i) else bt x 31 := b_sshr 8 (by omega) x hi
/-! WHAT THE CLASS'S METHODS DO, as functions over its state -/
/-- the class's state: arrays of ints, arrays of numbers, arrays of tools or none, counts -/
abbrev tcS : Type := (Nat → Nat → Int32) × (Nat → Nat → Nat) × (Nat → Nat → Option Nat) × (Nat → Nat)
def tc_s1 (σ : tcS) (k : Nat) (f : Nat → Int32) : tcS := (va_up σ.1 k f, σ.2)
def tc_s2 (σ : tcS) (k : Nat) (f : Nat → Nat) : tcS := (σ.1, va_up σ.2.1 k f, σ.2.2)
def tc_s3 (σ : tcS) (k : Nat) (f : Nat → Option Nat) : tcS := (σ.1, σ.2.1, va_up σ.2.2.1 k f, σ.2.2.2)
def tc_s4 (σ : tcS) (k n : Nat) : tcS := (σ.1, σ.2.1, σ.2.2.1, va_up σ.2.2.2 k n)
def tc_oI (o : Option Nat) : Int32 := match o with
  | none => -1
  | some k => nI k
def tc_b2 (b : Bool) : Int32 := cond b 1 0
theorem tc_rb {b b' : Bool} (e : b = b') : (some (.inl (tc_b2 b)) : Option tcV) = some (.inl (tc_b2 b')) := by rw [e]
theorem tc_ri {x y : Int32} (e : x = y) : (some (.inl x) : Option tcV) = some (.inl y) := by rw [e]
/-- the first of n places from k on -/
def tc_ff (p : Nat → Bool) : Nat → Nat → Option Nat
  | 0, _ => none
  | n + 1, k => if p k = true then some k else tc_ff p n (k + 1)
/-- bits 0 .. n-1 -/
def tc_mk (f : Nat → Bool) : Nat → Int32
  | 0 => 0
  | n + 1 => if f n = true then tc_mk f n ||| ((1 : Int32) <<< (nI n &&& 31)) else tc_mk f n
/-- n steps upwards from j -/
def tc_up {α : Type} (f : Nat → α → α) : Nat → Nat → α → α
  | 0, _, a => a
  | n + 1, j, a => tc_up f n (j + 1) (f j a)
/-- n steps downwards from j -/
def tc_dn {α : Type} (f : Nat → α → α) : Nat → Nat → α → α
  | 0, _, a => a
  | n + 1, j, a => tc_dn f n (j - 1) (f j a)
def tc_fill {α : Type} (n : Nat) (v : α) (f : Nat → α) : Nat → α := fun j => if j < n then v else f j
def tc_isN (x : Int32) (n : Nat) : Bool := decide (0 ≤ x ∧ x < nI n)
theorem tc_isN_neg {x : Int32} {n : Nat} (h : x < 0) : tc_isN x n = false := by
  refine decide_eq_false (fun q => ?_)
  have h1 := q.1
  rw [Int32.le_iff_toInt_le] at h1
  rw [Int32.lt_iff_toInt_lt] at h
  omega
theorem tc_isN_big {x : Int32} {n : Nat} (h : nI n ≤ x) : tc_isN x n = false := by
  refine decide_eq_false (fun q => ?_)
  have h1 := q.2
  rw [Int32.lt_iff_toInt_lt] at h1
  rw [Int32.le_iff_toInt_le] at h
  omega
theorem tc_isN_in {x : Int32} {n : Nat} (h1 : ¬ x < 0) (h2 : ¬ nI n ≤ x) : tc_isN x n = true := by
  refine decide_eq_true ⟨?_, ?_⟩
  · rw [Int32.lt_iff_toInt_lt] at h1
    rw [Int32.le_iff_toInt_le]
    omega
  · rw [Int32.le_iff_toInt_le] at h2
    rw [Int32.lt_iff_toInt_lt]
    omega
theorem tc_isN_ex {x : Int32} {n : Nat} (hn : n < 2 ^ 31) (h : tc_isN x n = true) : ∃ k, k < n ∧ x = nI k := by
  obtain ⟨h1, h2⟩ := of_decide_eq_true h
  rcases pk_ix x hn with q | q | q
  · rw [Int32.lt_iff_toInt_lt] at q
    rw [Int32.le_iff_toInt_le] at h1
    omega
  · rw [Int32.le_iff_toInt_le] at q
    rw [Int32.lt_iff_toInt_lt] at h2
    omega
  · exact q
theorem tc_isN_nI {k n : Nat} (hk : k < n) (hn : n < 2 ^ 31) : tc_isN (nI k) n = true := tc_isN_in (nI_pos (by omega)) (nI_ge hk hn)
/-! bits -/
theorem tc_bit {x : Int32} {k : Nat} (hk : k < 32) : ((x.toUInt32 >>> ((nI k).toUInt32 &&& Int32.toUInt32 31)).toInt32 &&& 1) = 0 ↔ bt x k = false := by
  have e1 : ∀ i, i < 32 → bt 1 i = decide (i = 0) := by decide +kernel
  constructor
  · intro h
    have h0 : bt ((x.toUInt32 >>> ((nI k).toUInt32 &&& Int32.toUInt32 31)).toInt32 &&& 1) 0 = bt 0 0 := by rw [h]
    rw [b_and, b_ushr k hk, b_0, e1 0 (by omega)] at h0
    simpa using h0
  · intro h
    refine b_ext (fun i hi => ?_)
    rw [b_and, b_ushr k hk, b_0, e1 i hi]
    by_cases h0 : i = 0
    · subst h0
      simpa using h
    · simp [h0]
theorem tc_one {k i : Nat} (hk : k < 32) (hi : i < 32) : bt ((1 : Int32) <<< (nI k &&& 31)) i = decide (i = k) := by
  have e1 : ∀ i, i < 32 → bt 1 i = decide (i = 0) := by decide +kernel
  rw [b_shl k hk 1 hi]
  by_cases h : k ≤ i
  · rw [e1 (i - k) (by omega)]
    by_cases h2 : i = k
    · subst h2
      simp
    · have : ¬ (i - k = 0) := by omega
      simp [this, h2]
  · have : ¬ i = k := by omega
    simp [h, this]
theorem tc_not {x : Int32} {i : Nat} (hi : i < 32) : bt (x ^^^ (-1)) i = !bt x i := by
  rw [b_xor, b_m1 i hi]
  simp
theorem tc_mk_bt {f : Nat → Bool} : ∀ {n i : Nat}, n ≤ 32 → i < 32 → bt (tc_mk f n) i = (decide (i < n) && f i)
  | 0, i, _, _ => by simp [tc_mk, b_0]
  | n + 1, i, hn, hi => by
    have ih := tc_mk_bt (f := f) (n := n) (i := i) (by omega) hi
    unfold tc_mk
    by_cases h2 : i = n
    · subst h2
      by_cases hf : f i = true
      · rw [if_pos hf, b_or, tc_one hi hi]
        simp [hf]
      · rw [if_neg hf, ih]
        simp [hf]
    · have h3 : decide (i < n + 1) = decide (i < n) := by
        have : (i < n + 1) ↔ (i < n) := by omega
        simp [this]
      by_cases hf : f n = true
      · rw [if_pos hf, b_or, ih, tc_one (by omega) hi, h3]
        simp [h2]
      · rw [if_neg hf, ih, h3]
theorem tc_z {x : Int32} : x = 0 ↔ ∀ i, i < 32 → bt x i = false := by
  constructor
  · intro h i _
    rw [h, b_0]
  · intro h
    exact b_ext (fun i hi => by rw [h i hi, b_0])
/-! the class -/
/-- a wish that a platform's constraints meet -/
def tc_fit (w h : Int32) : Bool := decide (w &&& (h ^^^ (-1)) = 0)
def tc_phav (σ : tcS) (w : Int32) : Int32 := tc_mk (fun p => tc_fit w (σ.1 0 p)) (σ.2.2.2 0)
def tc_unb (σ : tcS) (t : Nat) : Int32 := σ.1 5 t &&& (σ.1 7 t ^^^ (-1))
def tc_pws (r nk : Int32) (sup : Nat → Int32) : Nat → Int32
  | 0 => r
  | k + 1 => if bt nk k = true then tc_pws r nk sup k &&& sup k else tc_pws r nk sup k
def tc_gb (t : Nat) (a : tcS × Bool) : tcS × Bool :=
  if tc_pws (a.1.1 5 t) (a.1.1 4 t) (a.1.1 8) 8 = a.1.1 7 t then a
  else (tc_s1 (tc_s1 a.1 7 (upd (a.1.1 7) t (tc_pws (a.1.1 5 t) (a.1.1 4 t) (a.1.1 8) 8))) 8 (upd (a.1.1 8) (a.1.2.1 0 t) (a.1.1 8 (a.1.2.1 0 t) ||| a.1.1 6 t)), true)
def tc_grow (σ : tcS) : tcS × Bool := tc_up tc_gb (σ.2.2.2 1) 0 (σ, false)
def tc_i0 (t : Nat) (σ : tcS) : tcS := tc_s1 (tc_s1 (tc_s1 σ 5 (upd (σ.1 5) t (tc_phav σ (σ.1 1 t)))) 6 (upd (σ.1 6) t (tc_phav σ (σ.1 2 t)))) 7 (upd (σ.1 7) t 0)
def tc_pass : Nat → tcS × Bool → tcS
  | 0, a => a.1
  | n + 1, a => if a.2 = true then tc_pass n (tc_grow a.1) else a.1
def tc_settle (σ : tcS) : tcS := tc_pass (σ.2.2.2 1 + 1) (tc_s1 (tc_up tc_i0 (σ.2.2.2 1) 0 σ) 8 (tc_fill 8 0 ((tc_up tc_i0 (σ.2.2.2 1) 0 σ).1 8)), true)
def tc_steps (σ : tcS) (t : Nat) : Int32 := tc_mk (fun n => bt (σ.1 4 t) (σ.2.1 0 n) && (!decide (σ.1 6 n &&& tc_unb σ t = 0) && !decide (tc_unb σ n = 0))) (σ.2.2.2 1)
def tc_l0 (t : Nat) (σ : tcS) : tcS := tc_s1 σ 9 (upd (σ.1 9) t (tc_steps σ t))
def tc_l1 (m t : Nat) (σ : tcS) : tcS := if bt (σ.1 9 t) m = true then tc_s1 σ 9 (upd (σ.1 9) t (σ.1 9 t ||| σ.1 9 m)) else σ
def tc_l2 (m : Nat) (σ : tcS) : tcS := tc_up (tc_l1 m) (σ.2.2.2 1) 0 σ
def tc_leads (σ : tcS) : tcS := tc_up tc_l2 (σ.2.2.2 1) 0 (tc_up tc_l0 (σ.2.2.2 1) 0 σ)
/-- ring: before, then the tools from t on -/
def tc_ringF (σ : tcS) (i : Int32) : Nat → Nat → Nat → Int32
  | 0, _, _ => -1
  | n + 1, t, b => if bt (σ.1 9 t) t = true then (if nI b = i then nI t else tc_ringF σ i n (t + 1) (b + 1)) else tc_ringF σ i n (t + 1) b
def tc_why (σ : tcS) (t h g : Nat) : Nat :=
  if ¬ σ.2.2.1 0 (σ.2.1 0 t) = none ∧ ¬ σ.2.2.1 0 (σ.2.1 0 t) = some t then 1
  else if σ.1 3 t < σ.1 10 (σ.2.1 0 t) then 2
  else if bt (σ.1 5 t) h = false then 3
  else if bt (σ.1 6 t) g = false then 4
  else if bt (σ.1 7 t) h = true then 0 else 5
def tc_lack (σ : tcS) (w t h g : Nat) : Option Nat :=
  if w = 3 then tc_ff (bt (σ.1 1 t &&& (σ.1 0 h ^^^ (-1)))) 32 0
  else if w = 4 then tc_ff (bt (σ.1 2 t &&& (σ.1 0 g ^^^ (-1)))) 32 0
  else if w = 5 then tc_ff (fun k => bt (σ.1 4 t) k && !bt (σ.1 8 k) h) 8 0
  else none
def tc_w1 (σ : tcS) (j : Nat) (x : Int32) : tcS := tc_s1 σ 12 (upd (σ.1 12) j x)
def tc_add (σ : tcS) (h t w : Nat) (k : Option Nat) : tcS := if 144 ≤ σ.2.2.2 4 then σ else
  tc_s4 (tc_w1 (tc_w1 (tc_w1 (tc_w1 σ (σ.2.2.2 4 * 4) (nI h)) (σ.2.2.2 4 * 4 + 1) (nI t)) (σ.2.2.2 4 * 4 + 2) (nI w)) (σ.2.2.2 4 * 4 + 3) (tc_oI k)) 4 (σ.2.2.2 4 + 1)
def tc_cell (σ : tcS) (i w : Int32) : Int32 := if tc_isN i (σ.2.2.2 4) = true ∧ tc_isN w 4 = true then σ.1 12 (i.toNatClampNeg * 4 + w.toNatClampNeg) else -1
/-- firstGood: n places from i on -/
def tc_fg (k h g : Nat) : Nat → Nat → tcS → Option Nat × tcS
  | 0, _, σ => (none, σ)
  | n + 1, i, σ => if σ.2.1 0 (σ.2.1 1 i) = k then
      (if tc_why σ (σ.2.1 1 i) h g = 0 then (some (σ.2.1 1 i), tc_add σ h (σ.2.1 1 i) (tc_why σ (σ.2.1 1 i) h g) (tc_lack σ (tc_why σ (σ.2.1 1 i) h g) (σ.2.1 1 i) h g))
       else tc_fg k h g n (i + 1) (tc_add σ h (σ.2.1 1 i) (tc_why σ (σ.2.1 1 i) h g) (tc_lack σ (tc_why σ (σ.2.1 1 i) h g) (σ.2.1 1 i) h g)))
    else tc_fg k h g n (i + 1) σ
def tc_ts (h g k : Nat) (σ : tcS) : tcS := tc_s3 (tc_fg k h g (σ.2.2.2 1) 0 σ).2 1 (va_up ((tc_fg k h g (σ.2.2.2 1) 0 σ).2.2.2.1 1) k (tc_fg k h g (σ.2.2.2 1) 0 σ).1)
/-- takeTools: n asked ones from i on -/
def tc_tt (h g : Nat) : Nat → Nat → tcS → Bool × tcS
  | 0, _, σ => (true, σ)
  | n + 1, i, σ =>
    if (tc_fg (σ.2.1 2 i) h g (σ.2.2.2 1) 0 σ).1 = none ∧ ¬ σ.1 11 (σ.2.1 2 i) = 0 then (false, tc_ts h g (σ.2.1 2 i) σ)
    else tc_tt h g n (i + 1) (tc_ts h g (σ.2.1 2 i) σ)
def tc_t0 (σ : tcS) : tcS := tc_s3 σ 1 (tc_fill 8 none (σ.2.2.1 1))
def tc_take (h g : Nat) (σ : tcS) : Bool × tcS := tc_tt h g (σ.2.2.2 3) 0 (tc_t0 σ)
/-- choose: n hosts from h on -/
def tc_ch (g : Nat) : Nat → Nat → tcS → Option Nat × tcS
  | 0, _, σ => (none, tc_t0 σ)
  | n + 1, h, σ => if (tc_take h g σ).1 = true then (some h, (tc_take h g σ).2) else tc_ch g n (h + 1) (tc_take h g σ).2
def tc_choose (g : Nat) (σ : tcS) : Option Nat × tcS := tc_ch g (σ.2.2.2 0) 0 (tc_s4 (tc_settle σ) 4 0)
def tc_find (σ : tcS) (k : Nat) : Option Nat := tc_ff (fun i => decide (σ.2.1 2 i = k)) (σ.2.2.2 3) 0
def tc_put (σ : tcS) (k : Nat) (v b : Int32) : tcS :=
  tc_s1 (tc_s1 (if tc_find σ k = none ∧ σ.2.2.2 3 < 8 then tc_s4 (tc_s2 σ 2 (va_up (σ.2.1 2) (σ.2.2.2 3) k)) 3 (σ.2.2.2 3 + 1) else σ) 10 (upd (σ.1 10) k v)) 11 (upd (σ.1 11) k b)
def tc_rmB (j : Nat) (ρ : tcS) : tcS := tc_s2 ρ 2 (va_up (ρ.2.1 2) j (ρ.2.1 2 (j + 1)))
def tc_rem (σ : tcS) (k : Nat) : Bool × tcS := match tc_find σ k with
  | none => (false, σ)
  | some i => (true, tc_up tc_rmB (σ.2.2.2 3 - 1 - i) i (tc_s4 σ 3 (σ.2.2.2 3 - 1)))
/-- order: the place of a tool, then the others moved by one -/
def tc_place (σ : tcS) (t : Nat) : Nat → Nat → Nat
  | 0, i => i
  | n + 1, i => if σ.2.1 1 i = t then i else tc_place σ t n (i + 1)
def tc_o1 (j : Nat) (ρ : tcS) : tcS := tc_s2 ρ 1 (va_up (ρ.2.1 1) j (ρ.2.1 1 (j + 1)))
def tc_o2 (j : Nat) (ρ : tcS) : tcS := tc_s2 ρ 1 (va_up (ρ.2.1 1) j (ρ.2.1 1 (j - 1)))
def tc_o3 (t p : Nat) (ρ : tcS) : tcS := tc_s2 ρ 1 (va_up (ρ.2.1 1) p t)
def tc_from (σ : tcS) (t : Nat) : Nat := tc_place σ t (σ.2.2.2 1 - 1) 0
def tc_order (σ : tcS) (t p : Nat) : tcS := tc_o3 t p (tc_dn tc_o2 (tc_from σ t - p) (tc_from σ t) (tc_up tc_o1 (p - tc_from σ t) (tc_from σ t) σ))
/-! the public ones -/
def tc_platform (σ : tcS) (c : Int32) : Option Nat × tcS := if 6 ≤ σ.2.2.2 0 then (none, σ) else (some (σ.2.2.2 0), tc_s4 (tc_s1 σ 0 (upd (σ.1 0) (σ.2.2.2 0) c)) 0 (σ.2.2.2 0 + 1))
def tc_tool (σ : tcS) (k : Nat) (r m v : Int32) : Option Nat × tcS := if 24 ≤ σ.2.2.2 1 then (none, σ) else (some (σ.2.2.2 1),
  tc_s4 (tc_s2 (tc_s1 (tc_s1 (tc_s1 (tc_s2 σ 0 (va_up (σ.2.1 0) (σ.2.2.2 1) k)) 1 (upd (σ.1 1) (σ.2.2.2 1) r)) 2 (upd (σ.1 2) (σ.2.2.2 1) m)) 3 (upd (σ.1 3) (σ.2.2.2 1) v)) 1 (va_up (σ.2.1 1) (σ.2.2.2 1) (σ.2.2.2 1))) 1 (σ.2.2.2 1 + 1))
def tc_needs (σ : tcS) (t k : Nat) : Bool × tcS := if bt (σ.1 4 t) k = true ∨ 40 ≤ σ.2.2.2 2 then (false, σ) else (true, tc_s4 (tc_s1 σ 4 (upd (σ.1 4) t (σ.1 4 t ||| ((1 : Int32) <<< (nI k &&& 31))))) 2 (σ.2.2.2 2 + 1))
