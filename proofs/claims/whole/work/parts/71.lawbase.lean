/-! THE LAW'S WORLD: the class's cells and the reference's, side by side -/
theorem lx_at1 {w1 w2 : va_W} {k : Nat} {q : Nat × va_E} (h : w1[k]? = some q) : (w1 ++ w2)[k]? = some q := by
  rw [List.getElem?_append_left (List.getElem?_eq_some_iff.mp h).1]
  exact h
theorem lx_at2 {w1 w2 : va_W} {k : Nat} {q : Nat × va_E} (h : w2[k]? = some q) : (w1 ++ w2)[w1.length + k]? = some q := by
  rw [List.getElem?_append_right (by omega), Nat.add_sub_cancel_left]
  exact h
theorem lx_P1 {D : va_G} {cl : List vw_C} {w1 w2 : va_W} {H : Heap} (h : va_P D cl (w1 ++ w2) H) : va_P D cl w1 H := fun k q hk => h k q (lx_at1 hk)
theorem lx_P2 {D : va_G} {cl : List vw_C} {w1 w2 : va_W} {H : Heap} (h : va_P D cl (w1 ++ w2) H) : va_P D cl w2 H := fun k q hk => h _ q (lx_at2 hk)
theorem lx_D1 {A : Nat → Prop} {w1 w2 : va_W} (h : va_D A (w1 ++ w2)) : va_D A w1 := ⟨fun i j p q h1 h2 e => h.1 i j p q (lx_at1 h1) (lx_at1 h2) e, fun k q hk => h.2 k q (lx_at1 hk)⟩
theorem lx_D2 {A : Nat → Prop} {w1 w2 : va_W} (h : va_D A (w1 ++ w2)) : va_D A w2 := ⟨fun i j p q h1 h2 e => by
  have := h.1 _ _ p q (lx_at2 (w1 := w1) h1) (lx_at2 (w1 := w1) h2) e
  omega, fun k q hk => h.2 _ q (lx_at2 hk)⟩
theorem lx_dis {A : Nat → Prop} {w1 w2 : va_W} (h : va_D A (w1 ++ w2)) : ∀ (i j : Nat) (p q : Nat × va_E), w1[i]? = some p → w2[j]? = some q → p.1 ≠ q.1 := fun i j p q h1 h2 e => by
  have h3 := h.1 _ _ p q (lx_at1 (w2 := w2) h1) (lx_at2 (w1 := w1) h2) e
  have h4 := (List.getElem?_eq_some_iff.mp h1).1
  omega
/-- behind a call that had the cells wc: the other cells wr are as they were, and apart -/
theorem lx_rest {D : va_G} {cl : List vw_C} {wc wr wc' : va_W} {H H1 : Heap} (hPr : va_P D cl wr H) (hdis : ∀ (i j : Nat) (p q : Nat × va_E), wc[i]? = some p → wr[j]? = some q → p.1 ≠ q.1)
    (hk : ∀ q : Nat, q < H.size → ¬ va_A wc H.size q → H1[q]? = H[q]?) (hD1 : va_D (va_A wc H.size) wc') : va_P D cl wr H1 ∧ ∀ (i j : Nat) (p q : Nat × va_E), wc'[i]? = some p → wr[j]? = some q → p.1 ≠ q.1 := by
  have hn : ∀ (j : Nat) (q : Nat × va_E), wr[j]? = some q → ¬ va_A wc H.size q.1 := by
    intro j q hq h
    rcases h with ⟨k, e, h⟩ | h
    · exact hdis k j _ q h hq rfl
    · have := (hPr j q hq).lt
      omega
  refine ⟨hPr.kept (fun k q hq => hk q.1 (hPr k q hq).lt (hn k q hq)), fun i j p q h1 h2 e => ?_⟩
  refine hn j q h2 ?_
  rw [← e]
  exact hD1.2 i p h1
theorem lx_freeL {A0 : Nat → Prop} {ws : va_W} {H0 H : Heap} {locs : List Loc} (hD : va_D A0 ws) (hS : va_S A0 H0 H locs) (hA : ∀ q, H0.size ≤ q → A0 q) : ∀ q, va_A ws H.size q → A0 q := by
  intro q h
  rcases h with ⟨k, e, h⟩ | h
  · exact hD.2 k _ h
  · exact hA q (Nat.le_trans hS.1 h)
/-- the two worlds in the law's heap: the class's cells hc (the object at x), the reference's hm (the object at y) -/
def lx_I (D : va_G) (tg : Nat → ClassId) (H0 : Heap) (x y : Nat) (hc hm : List tcC) (H : Heap) (locs : List Loc) : Prop :=
  ∃ adC adM : Nat → Nat, adC 0 = x ∧ adM 0 = y ∧ va_P D vwCl (tc_w adC tg hc) H ∧ va_P D vwCl (tc_w adM tg hm) H ∧ va_D (fun q => H0.size ≤ q) (tc_w adC tg hc) ∧ va_D (fun q => H0.size ≤ q) (tc_w adM tg hm) ∧ (∀ (i j : Nat) (p q : Nat × va_E), (tc_w adC tg hc)[i]? = some p → (tc_w adM tg hm)[j]? = some q → p.1 ≠ q.1) ∧ va_S (fun q => H0.size ≤ q) H0 H locs
theorem lx_I.sw {D : va_G} {tg : Nat → ClassId} {H0 : Heap} {x y : Nat} {hc hm : List tcC} {H : Heap} {locs : List Loc} (h : lx_I D tg H0 x y hc hm H locs) : lx_I D tg H0 y x hm hc H locs := by
  obtain ⟨adC, adM, h1, h2, h3, h4, h5, h6, h7, h8⟩ := h
  exact ⟨adM, adC, h2, h1, h4, h3, h6, h5, fun i j p q a b e => h7 j i q p b a e.symm, h8⟩
theorem lx_I.S {D : va_G} {tg : Nat → ClassId} {H0 : Heap} {x y : Nat} {hc hm : List tcC} {H : Heap} {locs : List Loc} (h : lx_I D tg H0 x y hc hm H locs) : va_S (fun q => H0.size ≤ q) H0 H locs := by
  obtain ⟨adC, adM, h1, h2, h3, h4, h5, h6, h7, h8⟩ := h
  exact h8
/-- what the law has of the machine, the tables, the script -/
def lx_B (p : Program) (s : State) (m : MethodId) (b : Nat) (meth : Method) (c : Code) (D : va_G) (tg : Nat → ClassId) (L : Nat) (xs : Nat → Int32) : Prop :=
  p.tables.exec = Jvm.exec ∧ c.code = code ∧ c.maxLocals = 4 ∧ s.vm.findClass RLW = some m.cls ∧ (∀ w ∈ tc_T, w.before #[Value.ref b] s = true) ∧ va_K D vwCl (tc_ty tg) s ∧ tc_N s ∧ meth.sig.returnType = ret ∧ meth.locks = false ∧ va_X b L xs s s.heap ∧ b < s.heap.size ∧ L ≤ 2560
section LX
variable {p : Program} {l : Launch} {e : Env} {s : State} {m : MethodId} {b : Nat} {below : List Frame} {meth : Method} {c : Code} {D : va_G} {tg : Nat → ClassId} {L : Nat} {xs : Nat → Int32} {H : Heap} {locs : List Loc} {nc ns pc x y : Nat} {ls : Array Slot} {hc hc' hm : List tcC}
theorem lx_go {mc ms : Nat} {r : Option tcV} {rest : List Value} {st0 : List Value} {a : Array Value} {adC adM : Nat → Nat} (hx0 : adC 0 = x) (hy0 : adM 0 = y) (hPc : va_P D vwCl (tc_w adC tg hc) H) (hPm : va_P D vwCl (tc_w adM tg hm) H) (hDc : va_D (fun q => s.heap.size ≤ q) (tc_w adC tg hc)) (hDm : va_D (fun q => s.heap.size ≤ q) (tc_w adM tg hm)) (hdis : ∀ (i j : Nat) (p q : Nat × va_E), (tc_w adC tg hc)[i]? = some p → (tc_w adM tg hm)[j]? = some q → p.1 ≠ q.1) (hS : va_S (fun q => s.heap.size ≤ q) s.heap H locs)
    (h0 : 0 < hc.length) (hr0 : ∀ ad ad', r.map (tc_v ad) = r.map (tc_v ad')) (hr : va_Run p l e room_1 s m #[Value.ref b] below meth c H locs nc ns mc ms (F0 m pc ls st0) rest (tc_Q D tg adC H.size (hc, r, hc', mc, ms) a) (va_A (tc_w adC tg hc) H.size))
    (k : ∀ (H1 : Heap) (locs1 : List Loc), lx_I D tg s.heap x y hc' hm H1 locs1 → W p l e room_1 s m #[Value.ref b] below meth c H1 locs1 (nc + mc) (ns + ms) (lw_Z below #[Value.ref b] s) (F0 m (pc + 3) ls ((r.map (tc_v (fun _ => 0))).toList ++ rest))) : W p l e room_1 s m #[Value.ref b] below meth c H locs nc ns (lw_Z below #[Value.ref b] s) (F0 m pc ls st0) := by
  have hfr := lx_freeL hDc hS (fun _ h => h)
  intro T hT X
  obtain ⟨v, st₀, t, T', Lc, h1, X', hLc, e1, e2, ⟨ad', hag, hv, hp, hd, hz, hk⟩, stp⟩ := hr T hT X
  cases hv
  rw [h1] at hz hk
  have hres := lx_rest hPm hdis hk hd
  have hS' : va_S (fun q => s.heap.size ≤ q) s.heap T'.heap (locs ++ Lc) := ⟨Nat.le_trans hS.1 (by rw [e1]; exact hz), fun q h1 h2 => by rw [e1, hk q (Nat.lt_of_lt_of_le h1 hS.1) (fun z => h2 (hfr q z))]; exact hS.2.1 q h1 h2, fun q hq => by
      rcases List.mem_append.mp hq with h | h
      · exact hS.2.2 q h
      · exact hfr _ (hLc q h)⟩
  have kk := k T'.heap (locs ++ Lc) ⟨ad', adM, (hag 0 h0).trans hx0, hy0, by rw [e1]; exact hp, by rw [e1]; exact hres.1, hd.weaken (fun _ q _ z => hfr q.1 z), hDm, hres.2, hS'⟩
  obtain ⟨t2, a1, b1⟩ := kk T' rfl X'
  refine ⟨t2, stp t2 ?_, b1⟩
  rw [hr0 (fun _ => 0) ad'] at a1
  exact a1
theorem lx_pre {ad : Nat → Nat} {h : List tcC} {A : Nat → Prop} {As : List tcV} (hK : va_K D vwCl (tc_ty tg) s) (hN : tc_N s) (hP : va_P D vwCl (tc_w ad tg h) H) (hD : va_D A (tc_w ad tg h)) :
    ∀ U : State, U.heap = H → s.WarmedH U.vm → va_Pc (As.map (tc_v ad)) (tc_U D tg ad H.size h) (As.map (tc_v ad)).toArray U := fun U hU hW =>
  ⟨rfl, by rw [hU], by rw [hU]; exact hP, va_K.moved hW.alike hK, hD.weaken (fun _ _ _ _ => trivial), hN.warm hW⟩
theorem lx_room {d nL mc ms : Nat} (hd : d ≤ 8) (hn : nL ≤ 13) : (tc_rm d mc ms).frames + 1 ≤ room_1.frames ∧ 8 + (nL + 11) + (tc_rm d mc ms).locals ≤ room_1.locals := by
  refine ⟨?_, ?_⟩
  · show d + 1 ≤ 10
    omega
  · show 8 + (nL + 11) + 32 * d ≤ 378
    omega
/-- a call of a public method, of the world that stands first -/
theorem lx_call (B : lx_B p s m b meth c D tg L xs) {y0 : MethodName} {cc : ByteArray} {nL n idx d ci N : Nat} {ret0 : Option FieldType} {T : u_T} {fs : List tcV} {r : Int32} {st rest : List Value} (bs : List Int32) (hK0 : tc_KV RLW idx y0 cc nL ret0 n ci T N) (hd8 : d ≤ 8) (hM : tc_M y0 cc nL ret0 d (.inr (some 0) :: bs.map .inl) (hc, some (.inl r), hc', 0, 0)) (he : hc[0]? = some (.inr (ci, fs))) (hn : bs.length = n) (hst : st = (bs.map Value.int).reverse ++ .ref x :: rest) (hrest : (rest.map fun v => v.category).sum ≤ 8) (hd : decode code pc = .ok (.invokevirtual idx, 3)) (hls : ls.size = 4) (hcs : nc ≤ 41 ∧ ns ≤ 2254) (hI : lx_I D tg s.heap x y hc hm H locs)
    (k : ∀ (H1 : Heap) (locs1 : List Loc), lx_I D tg s.heap x y hc' hm H1 locs1 → W p l e room_1 s m #[Value.ref b] below meth c H1 locs1 nc ns (lw_Z below #[Value.ref b] s) (F0 m (pc + 3) ls (.int r :: rest))) : W p l e room_1 s m #[Value.ref b] below meth c H locs nc ns (lw_Z below #[Value.ref b] s) (F0 m pc ls st) := by
  obtain ⟨adC, adM, hx0, hy0, hPc, hPm, hDc, hDm, hdis, hS⟩ := hI
  obtain ⟨hx, hb, hml, hown, hts, hK, hN, hr, hlk, hX, hbl, hL⟩ := B
  obtain ⟨⟨y1, y2, y3, y4⟩, hl, hi, hsel, hci⟩ := hK0
  subst hst
  have eAs : (bs.map Sum.inl : List tcV).map (tc_v adC) = bs.map Value.int := by
    rw [List.map_map]
    exact List.map_congr_left (fun _ _ => rfl)
  refine lx_go (r := some (.inl r)) (mc := 0) (ms := 0) hx0 hy0 hPc hPm hDc hDm hdis hS (List.getElem?_eq_some_iff.mp he).1 (fun _ _ => rfl) (va_runV (b := x) (C := y0.cls) (As := bs.map Value.int) (n := n) ⟨hx, hb, hml, hown, hts⟩ (hM.2 l D tg adC H.size) ⟨callB_of n hts (tc_goodIn y1) rfl rfl rfl (hts _ y2) (hts _ hl) y3 (lx_room hd8 y4), hts _ hi, hts _ hsel⟩ ⟨tc_blind, ?_, ?_⟩ rfl (by simpa using hn) hls rfl (lv_room hrest) hd ⟨hcs.1, hcs.2⟩) k
  · have := va_recv hK hPc hci (tc_w_at he)
    rw [hx0] at this
    exact this
  · have := lx_pre (As := .inr (some 0) :: bs.map .inl) hK hN hPc hDc
    rw [List.map_cons, eAs] at this
    rw [List.map_cons, eAs]
    have e0 : tc_v adC (.inr (some 0)) = Value.ref x := by
      show Value.ref (adC 0) = _
      rw [hx0]
    rw [e0] at this
    rw [e0]
    exact this
/-- a constructor's call, of the world that stands first -/
theorem lx_init (B : lx_B p s m b meth c D tg L xs) {y0 : MethodName} {cc : ByteArray} {nL idx d mc ms n : Nat} {rest : List Value} (hn : n = 0) (hM : tc_M y0 cc nL none d [.inr (some 0)] (hc, none, hc', mc, ms)) (hY : tc_Y y0 cc nL none n) (hl : Cond.methodLink RLW idx y0 ∈ tc_T) (hy : y0.name = "<init>") (hi : Cond.instanceMethod y0 ∈ tc_T) (hd8 : d ≤ 8) (h0 : 0 < hc.length) (hrest : (rest.map fun v => v.category).sum ≤ 8) (hd : decode code pc = .ok (.invokespecial idx, 3)) (hls : ls.size = 4) (hcs : nc + mc ≤ 41 ∧ ns + ms ≤ 2254) (hI : lx_I D tg s.heap x y hc hm H locs)
    (k : ∀ (H1 : Heap) (locs1 : List Loc), lx_I D tg s.heap x y hc' hm H1 locs1 → W p l e room_1 s m #[Value.ref b] below meth c H1 locs1 (nc + mc) (ns + ms) (lw_Z below #[Value.ref b] s) (F0 m (pc + 3) ls rest)) : W p l e room_1 s m #[Value.ref b] below meth c H locs nc ns (lw_Z below #[Value.ref b] s) (F0 m pc ls (.ref x :: rest)) := by
  obtain ⟨adC, adM, hx0, hy0, hPc, hPm, hDc, hDm, hdis, hS⟩ := hI
  obtain ⟨hx, hb, hml, hown, hts, hK, hN, hr, hlk, hX, hbl, hL⟩ := B
  obtain ⟨y1, y2, y3, y4⟩ := hY
  refine lx_go (r := none) (mc := mc) (ms := ms) hx0 hy0 hPc hPm hDc hDm hdis hS h0 (fun _ _ => rfl) (va_runI (b := x) (As := []) (n := n) ⟨hx, hb, hml, hown, hts⟩ (hM.2 l D tg adC H.size) ⟨callB_of n hts (tc_goodIn y1) rfl rfl rfl (hts _ y2) (hts _ hl) y3 (lx_room hd8 y4), hy, hts _ hi⟩ ⟨tc_blind, ?_⟩ rfl hn.symm hls rfl (lv_room hrest) hd hcs) k
  have := lx_pre (As := [.inr (some 0)]) hK hN hPc hDc
  have e0 : tc_v adC (.inr (some 0)) = Value.ref x := by
    show Value.ref (adC 0) = _
    rw [hx0]
  rw [List.map_cons, List.map_nil, e0] at this
  rw [List.map_cons, List.map_nil, e0]
  exact this
/-- an argument out of the script -/
theorem lx_arg (B : lx_B p s m b meth c D tg L xs) {i j : Nat} {jj : Int} {st : List Value} {lv : List (Nat × Value)} (hl : lv_has ls 4 lv) (h3 : lv[0]? = some (3, .int (nI i))) (hb0 : lv[3]? = some (0, .ref b)) (hI : lx_I D tg s.heap x y hc hm H locs) (hij : i + j < L) (hj : Int32.ofInt jj = nI j) (d0 : decode code pc = .ok (.aload_n 0, 1)) (d1 : decode code (pc + 1) = .ok (.iload_n 3, 1)) (d2 : decode code (pc + 2) = .ok (.iconst jj, 1)) (d3 : decode code (pc + 3) = .ok (.iadd, 1)) (d4 : decode code (pc + 4) = .ok (.iaload, 1))
    (k : W p l e room_1 s m #[Value.ref b] below meth c H locs nc ns (lw_Z below #[Value.ref b] s) (F0 m (pc + 5) ls (.int (xs (i + j)) :: st))) : W p l e room_1 s m #[Value.ref b] below meth c H locs nc ns (lw_Z below #[Value.ref b] s) (F0 m pc ls st) := by
  obtain ⟨hx, hb, hml, hown, hts, hK, hN, hr, hlk, hX, hbl, hL⟩ := B
  refine lv_aload_n hx hb d0 rfl (lv_at hl 3 hb0) ?_
  refine lv_iload_n hx hb d1 rfl (lv_at hl 0 h3) ?_
  refine lv_iconst (v := nI j) hx hb d2 hj ?_
  refine lv_iadd hx hb d3 ?_
  rw [nI_add]
  refine va_sld hx hb hX hbl (Nat.not_le.mpr hbl) hI.S (vp_in_nI hij (by omega)) d4 ?_
  rw [nI_clamp (by omega)]
  exact k
end LX
