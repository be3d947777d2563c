/-! THE LAW'S LOOP AND ITS START -/
def FSTC : List Value := [.null, .int 0, .null, .null, .null, .null, .null, .null, .int 0, .int 0, .null, .null, .null, .null, .null, .null, .null, .null, .null]
def HTC : List tcC := [.inr (2, [.inr none, .inl 0, .inr none, .inr none, .inr none, .inr none, .inr none, .inr none, .inl 0, .inl 0, .inr none, .inr none, .inr none, .inr none, .inr none, .inr none, .inr none, .inr none, .inr none])]
theorem DFTC : ∀ j, j < 19 → defaultValue (tyTC j) = vp_V FSTC j := by decide +kernel
theorem WFTC (x : Nat) (tg : Nat → ClassId) : tc_w (fun _ => x) tg HTC = [(x, .inr (2, FSTC))] := by simp [tc_w, HTC, FSTC, tc_e, tc_v]
def FSMO : List Value := [.int 0, .int 0, .int 0, .int 0, .int 0, .null, .null, .null, .null, .null, .null, .null, .null, .null, .null, .null, .null, .null, .null, .null, .null, .null, .null, .null, .int 0]
def HMO : List tcC := [.inr (3, [.inl 0, .inl 0, .inl 0, .inl 0, .inl 0, .inr none, .inr none, .inr none, .inr none, .inr none, .inr none, .inr none, .inr none, .inr none, .inr none, .inr none, .inr none, .inr none, .inr none, .inr none, .inr none, .inr none, .inr none, .inr none, .inl 0])]
theorem DFMO : ∀ j, j < 25 → defaultValue (tyMO j) = vp_V FSMO j := by decide +kernel
theorem WFMO (x : Nat) (tg : Nat → ClassId) : tc_w (fun _ => x) tg HMO = [(x, .inr (3, FSMO))] := by simp [tc_w, HMO, FSMO, tc_e, tc_v]
theorem lx_cmp {L i : Nat} (hL : L ≤ 2560) (hi : i ≤ 2565) : nI L - 5 < nI i ↔ L < i + 5 := by
  have h1 : (nI L).toInt = (L : Int) := nI_toInt (by omega)
  have h2 : (nI i).toInt = (i : Int) := nI_toInt (by omega)
  have h3 : (nI L - 5).toInt = (L : Int) - 5 := by
    rw [Int32.toInt_sub, h1]
    show ((L : Int) - 5).bmod (2 ^ 32) = _
    rw [Int.bmod_def]
    split <;> omega
  rw [Int32.lt_iff_toInt_lt, h3, h2]
  omega
set_option maxHeartbeats 4000000 in
set_option maxRecDepth 100000 in
theorem lx_body {p : Program} {l : Launch} {e : Env} {s : State} {m : MethodId} {b : Nat} {below : List Frame} {meth : Method} {c : Code} {D : va_G} {tg : Nat → ClassId} {L : Nat} {xs : Nat → Int32} {x y : Nat} {ls : Array Slot} (B : lx_B p s m b meth c D tg L xs) {σ τ : tcS} (hR : tr_R σ τ) {i : Nat} (hi : i + 5 ≤ L) (hl : lv_has ls 4 [(3, .int (nI i)), (2, .ref y), (1, .ref x), (0, .ref b)]) (k : ∀ (σ' τ' : tcS) (H : Heap) (locs : List Loc), tr_R σ' τ' → lx_I D tg s.heap x y (tc_hC σ') (tm_h τ') H locs → W p l e room_1 s m #[Value.ref b] below meth c H locs 41 2254 (lw_Z below #[Value.ref b] s) (F0 m 505 ls [])) {H : Heap} {locs : List Loc} (hI : lx_I D tg s.heap x y (tc_hC σ) (tm_h τ) H locs) : W p l e room_1 s m #[Value.ref b] below meth c H locs 41 2254 (lw_Z below #[Value.ref b] s) (F0 m 26 ls []) := by
  obtain ⟨hx, hb, hml, hown, hts, hK, hN, hr, hlk, hX, hbl, hL⟩ := id B
  refine lv_aload_n hx hb dLW_law_26 rfl (lv_at hl 3 rfl) ?_
  refine lv_iload_n hx hb dLW_law_27 rfl (lv_at hl 0 rfl) ?_
  refine va_sld hx hb hX hbl (Nat.not_le.mpr hbl) hI.S (vp_in_nI (show i < L by omega) (by omega)) dLW_law_28 ?_
  refine lv_bipush (v := 15) hx hb dLW_law_29 (by decide) ?_
  refine lv_iand hx hb dLW_law_31 ?_
  generalize (xs (nI i).toNatClampNeg &&& 15) = v
  by_cases ho : v.toInt < 0 ∨ 12 < v.toInt
  · exact lv_tableOut (tgt := 505) hx hb dLW_law_32 ho (by decide) (k σ τ H locs hR hI)
  · have hv : v.toInt = 0 ∨ v.toInt = 1 ∨ v.toInt = 2 ∨ v.toInt = 3 ∨ v.toInt = 4 ∨ v.toInt = 5 ∨ v.toInt = 6 ∨ v.toInt = 7 ∨ v.toInt = 8 ∨ v.toInt = 9 ∨ v.toInt = 10 ∨ v.toInt = 11 ∨ v.toInt = 12 := by omega
    rcases hv with hv | hv | hv | hv | hv | hv | hv | hv | hv | hv | hv | hv | hv
    · exact lv_tableIn (tgt := 100) (off := 68) hx hb dLW_law_32 (by rw [hv]; decide) (by rw [hv]; decide) (by rw [hv]; rfl) (by decide) (lc_platform B hR hi hl k hI)
    · exact lv_tableIn (tgt := 123) (off := 91) hx hb dLW_law_32 (by rw [hv]; decide) (by rw [hv]; decide) (by rw [hv]; rfl) (by decide) (lc_tool B hR hi hl k hI)
    · exact lv_tableIn (tgt := 176) (off := 144) hx hb dLW_law_32 (by rw [hv]; decide) (by rw [hv]; decide) (by rw [hv]; rfl) (by decide) (lc_order B hR hi hl k hI)
    · exact lv_tableIn (tgt := 209) (off := 177) hx hb dLW_law_32 (by rw [hv]; decide) (by rw [hv]; decide) (by rw [hv]; rfl) (by decide) (lc_needs B hR hi hl k hI)
    · exact lv_tableIn (tgt := 242) (off := 210) hx hb dLW_law_32 (by rw [hv]; decide) (by rw [hv]; decide) (by rw [hv]; rfl) (by decide) (lc_ask B hR hi hl k hI)
    · exact lv_tableIn (tgt := 301) (off := 269) hx hb dLW_law_32 (by rw [hv]; decide) (by rw [hv]; decide) (by rw [hv]; rfl) (by decide) (lc_drop B hR hi hl k hI)
    · exact lv_tableIn (tgt := 324) (off := 292) hx hb dLW_law_32 (by rw [hv]; decide) (by rw [hv]; decide) (by rw [hv]; rfl) (by decide) (lc_force B hR hi hl k hI)
    · exact lv_tableIn (tgt := 357) (off := 325) hx hb dLW_law_32 (by rw [hv]; decide) (by rw [hv]; decide) (by rw [hv]; rfl) (by decide) (lc_choose B hR hi hl k hI)
    · exact lv_tableIn (tgt := 380) (off := 348) hx hb dLW_law_32 (by rw [hv]; decide) (by rw [hv]; decide) (by rw [hv]; rfl) (by decide) (lc_chosen B hR hi hl k hI)
    · exact lv_tableIn (tgt := 403) (off := 371) hx hb dLW_law_32 (by rw [hv]; decide) (by rw [hv]; decide) (by rw [hv]; rfl) (by decide) (lc_rows B hR hi hl k hI)
    · exact lv_tableIn (tgt := 416) (off := 384) hx hb dLW_law_32 (by rw [hv]; decide) (by rw [hv]; decide) (by rw [hv]; rfl) (by decide) (lc_row B hR hi hl k hI)
    · exact lv_tableIn (tgt := 449) (off := 417) hx hb dLW_law_32 (by rw [hv]; decide) (by rw [hv]; decide) (by rw [hv]; rfl) (by decide) (lc_built B hR hi hl k hI)
    · exact lv_tableIn (tgt := 482) (off := 450) hx hb dLW_law_32 (by rw [hv]; decide) (by rw [hv]; decide) (by rw [hv]; rfl) (by decide) (lc_ring B hR hi hl k hI)
set_option maxHeartbeats 4000000 in
set_option maxRecDepth 100000 in
theorem lx_loop {p : Program} {l : Launch} {e : Env} {s : State} {m : MethodId} {b : Nat} {below : List Frame} {meth : Method} {c : Code} {D : va_G} {tg : Nat → ClassId} {L : Nat} {xs : Nat → Int32} {x y : Nat} (B : lx_B p s m b meth c D tg L xs) : ∀ (n i : Nat) (σ τ : tcS) (H : Heap) (locs : List Loc) (ls : Array Slot), L < i + 5 * n + 5 → i ≤ 2565 → tr_R σ τ → lx_I D tg s.heap x y (tc_hC σ) (tm_h τ) H locs → lv_has ls 4 [(3, .int (nI i)), (2, .ref y), (1, .ref x), (0, .ref b)] → W p l e room_1 s m #[Value.ref b] below meth c H locs 41 2254 (lw_Z below #[Value.ref b] s) (F0 m 18 ls []) := by
  obtain ⟨hx, hb, hml, hown, hts, hK, hN, hr, hlk, hX, hbl, hL⟩ := id B
  intro n
  induction n with
  | zero =>
    intro i σ τ H locs ls hn hi hR hI hl
    refine lv_iload_n hx hb dLW_law_18 rfl (lv_at hl 0 rfl) ?_
    refine lv_aload_n hx hb dLW_law_19 rfl (lv_at hl 3 rfl) ?_
    refine va_slen hx hb hX hbl (Nat.not_le.mpr hbl) hI.S dLW_law_20 ?_
    refine lv_iconst (v := 5) hx hb dLW_law_21 (by decide) ?_
    refine lv_isub hx hb dLW_law_22 ?_
    refine lv_icmp_gt (tgt := 511) hx hb dLW_law_23 (by decide) (fun _ => ?_) (fun z => absurd ((lx_cmp hL hi).mpr (by omega)) z)
    refine lv_iconst (v := 1) hx hb dLW_law_511 (by decide) ?_
    refine va_forget hI.S.2.2 ?_
    exact lw_ret hx hb hr hlk dLW_law_512
  | succ n ih =>
    intro i σ τ H locs ls hn hi hR hI hl
    refine lv_iload_n hx hb dLW_law_18 rfl (lv_at hl 0 rfl) ?_
    refine lv_aload_n hx hb dLW_law_19 rfl (lv_at hl 3 rfl) ?_
    refine va_slen hx hb hX hbl (Nat.not_le.mpr hbl) hI.S dLW_law_20 ?_
    refine lv_iconst (v := 5) hx hb dLW_law_21 (by decide) ?_
    refine lv_isub hx hb dLW_law_22 ?_
    refine lv_icmp_gt (tgt := 511) hx hb dLW_law_23 (by decide) (fun _ => ?_) (fun z => ?_)
    · refine lv_iconst (v := 1) hx hb dLW_law_511 (by decide) ?_
      refine va_forget hI.S.2.2 ?_
      exact lw_ret hx hb hr hlk dLW_law_512
    · have hlt : i + 5 ≤ L := Nat.not_lt.mp (fun q => z ((lx_cmp hL hi).mpr q))
      refine lx_body B hR hlt hl (fun σ' τ' H1 locs1 hR1 hI1 => ?_) hI
      refine lv_iinc (k := 0) (v := nI (i + 5)) (lv' := [(3, .int (nI (i + 5))), (2, .ref y), (1, .ref x), (0, .ref b)]) hx hb dLW_law_505 hl rfl (by show nI i + nI 5 = _; exact nI_add i 5) (by decide) rfl (fun ls1 hl1 => ?_)
      refine lv_goto (tgt := 18) hx hb dLW_law_508 (by decide) ?_
      exact ih (i + 5) σ' τ' H1 locs1 ls1 (by omega) (by omega) hR1 hI1 hl1
theorem lx_nest : ∀ q ∈ tc_nest, Cond.methodLinkNest q.1 q.2.1 q.2.2.1 q.2.2.2 ∈ lw_tbl := by decide +kernel
theorem lx_arr {s : State} {a : Array Value} {ty : FieldType} (h : (Cond.arrayClass ty).before a s = true) (hp : ∀ C, ty ≠ .object C) : ∃ cA : ClassId, ArrOfT s cA ty ∧ va_RA s cA ty := by
  obtain ⟨cA, kA, comp, h1, h2, h3⟩ := Cond.arrayClass_spec h
  refine ⟨cA, fun n z => ⟨fun k h => (by cases h), kA, h2, comp, h3⟩, ?_⟩
  cases ty with
  | object C => exact absurd rfl (hp C)
  | _ => exact h1
set_option maxHeartbeats 4000000 in
set_option maxRecDepth 100000 in
/-- from the entry, for every script of at most 2560 ints, the law comes to its end with true -/
theorem whole_start {p : Program} {e : Env} {s : State} {m : MethodId} {below : List Frame} {meth : Method} {c : Code} (l : Launch) {b L : Nat} {xs : Nat → Int32} (hL : L ≤ 2560) (C0 : lw_At p s m meth c b L xs) : W p l e room_1 s m #[Value.ref b] below meth c s.heap [] 0 0 (lw_Z below #[Value.ref b] s) (entryFrame m ([Value.ref b] : List Value).toArray 4) := by
  obtain ⟨hx, hb, hr, hml, hown, hts0, hX, hbl, hlocks, hgv⟩ := id C0
  have hts : ∀ w ∈ tc_T, w.before #[Value.ref b] s = true := fun w hw => hts0 w (List.mem_filter.mp hw).1
  have hN : tc_N s := fun q hq => va_Nw.of rfl (hts0 _ (lx_nest q hq))
  obtain ⟨a0, hA0⟩ := lx_arr (hts _ ar_int) (fun C h => by cases h)
  obtain ⟨a1, hA1⟩ := lx_arr (hts _ ar_boolean) (fun C h => by cases h)
  obtain ⟨c0, i0, hKn0⟩ := u_known hts uAK (hts _ inAK)
  obtain ⟨c1, i1, hKn1⟩ := u_known hts uRO (hts _ inRO)
  obtain ⟨c2, i2, hKn2⟩ := u_known hts uTC (hts _ inTC)
  obtain ⟨c3, i3, hKn3⟩ := u_known hts uMO (hts _ inMO)
  obtain ⟨dC, dI, hKc⟩ : ∃ (dC : Nat → ClassId) (dI : Nat → Nat → Nat), ∀ (k : Nat) (q : vw_C), vwCl[k]? = some q → u_Kn s q.1 q.2.1 q.2.2 (dC k) (dI k) := by
    refine ⟨fun k => if k = 0 then c0 else if k = 1 then c1 else if k = 2 then c2 else c3, fun k => if k = 0 then i0 else if k = 1 then i1 else if k = 2 then i2 else i3, ?_⟩
    intro k q hq
    match k, hq with
    | 0, hq => cases hq; exact hKn0
    | 1, hq => cases hq; exact hKn1
    | 2, hq => cases hq; exact hKn2
    | 3, hq => cases hq; exact hKn3
    | k + 4, hq => simp [vwCl] at hq
  obtain ⟨tg, htg⟩ : ∃ tg : Nat → ClassId, tg 0 = a0 ∧ tg 1 = a1 := ⟨fun k => if k = 0 then a0 else a1, rfl, rfl⟩
  have hK : va_K (dC, dI) vwCl (tc_ty tg) s := ⟨hKc, fun k q h => by
    match k, h with
    | 0, h => cases h; rw [htg.1]; exact hA0
    | 1, h => cases h; rw [htg.2]; exact hA1
    | k + 2, h => simp [tc_ty] at h⟩
  have B : lx_B p s m b meth c (dC, dI) tg L xs := ⟨hx, hb, hml, hown, hts, hK, hN, hr, hlocks, hX, hbl, hL⟩
  have hP0 : va_P (dC, dI) vwCl [] s.heap := fun k q h => by simp at h
  have hD0 : va_D (fun q : Nat => s.heap.size ≤ q) [] := ⟨fun i j p q h => by simp at h, fun k q h => by simp at h⟩
  have hl := lv_entry ([.ref b]) (n := 4) (Nat.le_of_ble_eq_true rfl)
  rw [lg_entry_eq]
  generalize (lg_sl ([.ref b]) ++ List.replicate (4 - (lg_sl ([.ref b])).length) Slot.unset).toArray = ls at hl ⊢
  have hl : lv_has ls 4 [(0, .ref b)] := hl
  refine va_new (ci := 2) (C := RTC) (T := TTC) (N := 19) (fs := FSTC) hx hb hts uTC tyTC okTC hown (hts _ clLW_7) (hts _ inTC) (hts _ itTC) hK hP0 hD0 va_S.rf (fun _ h => h) rfl DFTC (Nat.le_of_ble_eq_true rfl) (Nat.le_of_ble_eq_true rfl) dLW_law_0 (fun x H hP hD hS => ?_)
  refine lv_dup hx hb dLW_law_3 rfl ?_
  have hI : lx_I (dC, dI) tg s.heap x x HTC [] H [] := ⟨fun _ => x, fun _ => x, rfl, rfl, by rw [WFTC]; exact hP, fun k q h => by simp [tc_w] at h, by rw [WFTC]; exact hD, ⟨fun i j p q h => by simp [tc_w] at h, fun k q h => by simp [tc_w] at h⟩, fun i j p q _ h => by simp [tc_w] at h, hS⟩
  refine lx_init B rfl cc_initTC YTC_init lLW_9 rfl ITC_init (by decide) (Nat.le_of_ble_eq_true rfl) (Nat.le_of_ble_eq_true rfl) dLW_law_4 hl.1 (by decide) hI (fun H1 locs1 hI1 => ?_)
  refine lv_astore_n (lv' := [(1, .ref x), (0, .ref b)]) hx hb dLW_law_7 rfl hl (by decide) rfl (fun ls1 hl1 => ?_)
  obtain ⟨adC, adM, hx0, hy0, hPc, hPm, hDc, hDm, hdis, hS1⟩ := hI1
  refine va_new (ci := 3) (C := RMO) (T := TMO) (N := 25) (fs := FSMO) hx hb hts uMO tyMO okMO hown (hts _ clLW_10) (hts _ inMO) (hts _ itMO) hK hPc hDc hS1 (fun _ h => h) rfl DFMO (by decide) (by decide) dLW_law_8 (fun y H2 hP2 hD2 hS2 => ?_)
  refine lv_dup hx hb dLW_law_11 rfl ?_
  have hI2 : lx_I (dC, dI) tg s.heap y x HMO (tc_hC tc_z0) H2 locs1 := ⟨fun _ => y, adC, rfl, hx0, by rw [WFMO]; exact lx_P2 hP2, lx_P1 hP2, by rw [WFMO]; exact lx_D2 hD2, lx_D1 hD2, fun i j p q h1 h2 e => by rw [WFMO] at h1; exact lx_dis hD2 j i q p h2 h1 e.symm, hS2⟩
  refine lx_init B rfl cc_initMO YMO_init lLW_12 rfl IMO_init (by decide) (Nat.le_of_ble_eq_true rfl) (Nat.le_of_ble_eq_true rfl) dLW_law_12 hl1.1 (by decide) hI2 (fun H3 locs3 hI3 => ?_)
  refine lv_astore_n (lv' := [(2, .ref y), (1, .ref x), (0, .ref b)]) hx hb dLW_law_15 rfl hl1 (by decide) rfl (fun ls2 hl2 => ?_)
  refine lv_iconst (v := 0) hx hb dLW_law_16 (by decide) ?_
  refine lv_istore_n (lv' := [(3, .int 0), (2, .ref y), (1, .ref x), (0, .ref b)]) hx hb dLW_law_17 rfl hl2 (by decide) rfl (fun ls3 hl3 => ?_)
  exact lx_loop B 512 0 tc_z0 tm_z0 H3 locs3 ls3 (by omega) (by omega) tr_z hI3.sw (by rw [nI_0]; exact hl3)
