/-! rows that make cells -/
def tc_okH (n : Nat) (h : List tcC) : Bool := h.all (fun c => match c with
  | .inl (_, _, .inl _) => true
  | .inl (_, _, .inr _) => false
  | .inr (_, fs) => tc_okS n fs)
theorem tc_e_ag {n : Nat} {ad ad' : Nat → Nat} {tg : Nat → ClassId} (ha : ∀ k, k < n → ad' k = ad k) {h : List tcC} (hh : tc_okH n h = true) {c : tcC} (hc : c ∈ h) : tc_e ad' tg c = tc_e ad tg c := by
  have h1 := List.all_eq_true.mp hh c hc
  rcases c with ⟨t, m, f | g⟩ | ⟨ci, fs⟩
  · rfl
  · exact absurd h1 (by simp)
  · show Sum.inr (ci, fs.map (tc_v ad')) = Sum.inr (ci, fs.map (tc_v ad))
    rw [tc_vs_ag ha h1]
def tc_ad (ad : Nat → Nat) (n q : Nat) : Nat → Nat := fun k => if k = n then q else ad k
theorem tc_ad_lt {ad : Nat → Nat} {n q : Nat} : ∀ k, k < n → tc_ad ad n q k = ad k := fun k hk => by
  unfold tc_ad
  rw [if_neg (by omega)]
theorem tc_ad_n {ad : Nat → Nat} {n q : Nat} : tc_ad ad n q n = q := by
  unfold tc_ad
  rw [if_pos rfl]
theorem tc_w_new {ad : Nat → Nat} {tg : Nat → ClassId} {h : List tcC} {c : tcC} {q : Nat} (hh : tc_okH h.length h = true) (hc : tc_okH h.length [c] = true) : tc_w (tc_ad ad h.length q) tg (h ++ [c]) = tc_w ad tg h ++ [(q, tc_e ad tg c)] := by
  refine List.ext_getElem? (fun i => ?_)
  have e1 : (tc_w (tc_ad ad h.length q) tg (h ++ [c]))[i]? = ((h ++ [c])[i]?).map (fun c => (tc_ad ad h.length q i, tc_e (tc_ad ad h.length q) tg c)) := by unfold tc_w; rw [List.getElem?_mapIdx]
  have e2 : (tc_w ad tg h)[i]? = (h[i]?).map (fun c => (ad i, tc_e ad tg c)) := by unfold tc_w; rw [List.getElem?_mapIdx]
  have e3 : (tc_w ad tg h).length = h.length := by simp [tc_w]
  rw [e1]
  by_cases hi : i < h.length
  · rw [List.getElem?_append_left hi, List.getElem?_append_left (by rw [e3]; exact hi), e2, tc_ad_lt i hi, List.getElem?_eq_getElem hi]
    simp only [Option.map_some]
    rw [tc_e_ag tc_ad_lt hh (List.getElem_mem hi)]
  · by_cases h2 : i = h.length
    · subst h2
      rw [List.getElem?_append_right (Nat.le_refl _), List.getElem?_append_right (by rw [e3]; exact Nat.le_refl _), e3, Nat.sub_self]
      simp only [List.getElem?_cons_zero, Option.map_some]
      rw [tc_ad_n, tc_e_ag tc_ad_lt hc List.mem_cons_self]
    · rw [List.getElem?_eq_none (by simp; omega), List.getElem?_eq_none (by simp [e3]; omega)]
      rfl
section TA
variable {M : tcM} {K : tcK} {nc ns : Nat} {h : List tcC} {pc : Nat} {L : List (Option tcV)} {st : List tcV}
/-- the goal behind a new cell -/
theorem tc_new_go {l : Launch} {p : Program} {e : Env} {s : State} {m : MethodId} {args : Array Value} {below : List Frame} {meth : Method} {c : Code} {D : va_G} {tg : Nat → ClassId} {ad0 ad : Nat → Nat} {H1 : Heap} {locs : List Loc} {ls : Array Slot} {cl : tcC} {q : Nat}
    (B : tc_B M p s m args meth c D tg) (hG : K.1.length ≤ h.length ∧ ∀ k, k < K.1.length → ad k = ad0 k) (hL : tc_L ad ls M.2.1 L) (hw : tc_okH h.length h = true ∧ tc_okL h.length L = true ∧ tc_okS h.length st = true) (hc : tc_okH h.length [cl] = true)
    (hP : va_P D vwCl (tc_w ad tg h ++ [(q, tc_e ad tg cl)]) H1) (hD : va_D (va_A (tc_w ad0 tg K.1) s.heap.size) (tc_w ad tg h ++ [(q, tc_e ad tg cl)])) (hS : va_S (va_A (tc_w ad0 tg K.1) s.heap.size) s.heap H1 locs)
    (k : tc_V M K nc ns (h ++ [cl]) pc L (.inr (some h.length) :: st)) : W p l e (tc_rm M.2.2.2.2.1 K.2.2.2.1 K.2.2.2.2) s m args below meth c H1 locs nc ns (MQ below (tc_Q D tg ad0 s.heap.size K) args s K.2.2.2.1 K.2.2.2.2 (va_A (tc_w ad0 tg K.1) s.heap.size)) (F0 m pc ls (.ref q :: st.map (tc_v ad))) := by
  have ew := tc_w_new (ad := ad) (tg := tg) (q := q) hw.1 hc
  have es : (Value.ref q :: st.map (tc_v ad)) = ((.inr (some h.length) :: st : List tcV).map (tc_v (tc_ad ad h.length q))) := by
    rw [List.map_cons, tc_vs_ag tc_ad_lt hw.2.2]
    show _ = Value.ref (tc_ad ad h.length q h.length) :: _
    rw [tc_ad_n]
  rw [es]
  exact k l p e s m args below meth c D tg ad0 (tc_ad ad h.length q) B ⟨by rw [List.length_append]; omega, fun i hi => by rw [tc_ad_lt i (by omega)]; exact hG.2 i hi⟩ H1 locs ls (by rw [ew]; exact hP) (by rw [ew]; exact hD) hS (tc_L_ag tc_ad_lt hw.2.1 hL)
theorem tv_newa_i {n : Nat} {atype : ArrayType} (hd : decode M.1 pc = .ok (.newarray atype, 2)) (hty : newarray.typeOf atype = .int) (ha : Cond.arrayClass .int ∈ tc_T) (hn : n ≤ 1000) (hw : tc_okH h.length h = true ∧ tc_okL h.length L = true ∧ tc_okS h.length st = true) (hc : nc + 1 ≤ K.2.2.2.1 ∧ ns + n ≤ K.2.2.2.2) (k : tc_V M K (nc + 1) (ns + n) (h ++ [.inl (0, n, .inl (fun _ => 0))]) (pc + 2) L (.inr (some h.length) :: st)) : tc_V M K nc ns h pc L (.inl (nI n) :: st) := by
  intro l p e s m args below meth c D tg ad0 ad B hG H locs ls hP hD hS hL
  refine va_newa (a0 := (n, .inl (fun _ => 0))) B.1 B.2.1 (by rw [hty]; exact B.2.2.2.2.1 _ ha) hty B.2.2.2.2.2.1 hP hD hS (fun q hq => Or.inr hq) (fun _ => rfl) (nI_pos (by omega)) (nI_clamp (by omega)) (Nat.le_trans (Nat.mul_le_mul_right _ hn) (by decide)) hc.1 hc.2 hd (fun q cA H1 hK1 hP1 hD1 hS1 => ?_)
  have h1 := (hK1.2 2 _ rfl).2
  have h2 := (B.2.2.2.2.2.1.2 0 _ rfl).2
  have ec : cA = tg 0 := Option.some.inj (h1.symm.trans h2)
  subst ec
  exact tc_new_go (cl := .inl (0, n, .inl (fun _ => 0))) B hG hL hw rfl hP1 hD1 hS1 k
theorem tv_newa_z {n : Nat} {atype : ArrayType} (hd : decode M.1 pc = .ok (.newarray atype, 2)) (hty : newarray.typeOf atype = .boolean) (ha : Cond.arrayClass .boolean ∈ tc_T) (hn : n ≤ 1000) (hw : tc_okH h.length h = true ∧ tc_okL h.length L = true ∧ tc_okS h.length st = true) (hc : nc + 1 ≤ K.2.2.2.1 ∧ ns + n ≤ K.2.2.2.2) (k : tc_V M K (nc + 1) (ns + n) (h ++ [.inl (1, n, .inl (fun _ => 0))]) (pc + 2) L (.inr (some h.length) :: st)) : tc_V M K nc ns h pc L (.inl (nI n) :: st) := by
  intro l p e s m args below meth c D tg ad0 ad B hG H locs ls hP hD hS hL
  refine va_newa (a0 := (n, .inl (fun _ => 0))) B.1 B.2.1 (by rw [hty]; exact B.2.2.2.2.1 _ ha) hty B.2.2.2.2.2.1 hP hD hS (fun q hq => Or.inr hq) (fun _ => rfl) (nI_pos (by omega)) (nI_clamp (by omega)) (Nat.le_trans (Nat.mul_le_mul_right _ hn) (by decide)) hc.1 hc.2 hd (fun q cA H1 hK1 hP1 hD1 hS1 => ?_)
  have h1 := (hK1.2 2 _ rfl).2
  have h2 := (B.2.2.2.2.2.1.2 1 _ rfl).2
  have ec : cA = tg 1 := Option.some.inj (h1.symm.trans h2)
  subst ec
  exact tc_new_go (cl := .inl (1, n, .inl (fun _ => 0))) B hG hL hw rfl hP1 hD1 hS1 k
theorem tv_new {idx ci N : Nat} {C : String} {T : u_T} {ty0 : Nat → FieldType} {fs : List tcV} (hc0 : vwCl[ci]? = some (C, T, N)) (hu : ∀ w ∈ u_ws C T N, w ∈ tc_T) (ht : ∀ j, j < N → parseFieldDescriptor (T j).2.2.1 = some (ty0 j)) (hl : Cond.classLink M.2.2.1 idx C ∈ tc_T) (hi : Cond.instantiable C N ∈ tc_T) (hini : Cond.initialized C ∈ tc_T) (hf : ∀ (ad : Nat → Nat) (j : Nat), j < N → defaultValue (ty0 j) = vp_V (fs.map (tc_v ad)) j) (hok : tc_okS 0 fs = true) (hd : decode M.1 pc = .ok (.new idx, 3)) (hw : tc_okH h.length h = true ∧ tc_okL h.length L = true ∧ tc_okS h.length st = true) (hc : nc + 1 ≤ K.2.2.2.1 ∧ ns + N ≤ K.2.2.2.2) (k : tc_V M K (nc + 1) (ns + N) (h ++ [.inr (ci, fs)]) (pc + 3) L (.inr (some h.length) :: st)) : tc_V M K nc ns h pc L st := by
  intro l p e s m args below meth c D tg ad0 ad B hG H locs ls hP hD hS hL
  refine va_new (fs := fs.map (tc_v ad)) B.1 B.2.1 B.2.2.2.2.1 hu ty0 ht B.2.2.2.1 (B.2.2.2.2.1 _ hl) (B.2.2.2.2.1 _ hi) (B.2.2.2.2.1 _ hini) B.2.2.2.2.2.1 hP hD hS (fun q hq => Or.inr hq) hc0 (hf ad) hc.1 hc.2 hd (fun q H1 hP1 hD1 hS1 => ?_)
  have hok2 : tc_okS h.length fs = true := List.all_eq_true.mpr (fun v hv => by
    have h1 := List.all_eq_true.mp hok v hv
    rcases v with x | (_ | k)
    · rfl
    · rfl
    · exact absurd (of_decide_eq_true (show decide (k < 0) = true from h1)) (Nat.not_lt_zero k))
  exact tc_new_go (cl := .inr (ci, fs)) B hG hL hw (by simp [tc_okH, hok2]) hP1 hD1 hS1 k
theorem tv_putF {idx ci j q N : Nat} {C : String} {T : u_T} {ty0 : Nat → FieldType} {ty : FieldType} {fs fs' : List tcV} {v : tcV} {h' : List tcC} (hF : tc_F M.2.2.1 idx ci j C T N) (hT : tc_FT T N ty0) (g3 : (T j).2.2.2 = true) (g5 : M.2.2.2.2.2 = "<init>") (g6 : (T j).1 = M.2.2.1) (g4 : parseFieldDescriptor (T j).2.2.1 = some ty) (gv : ∀ ad : Nat → Nat, narrow ty (tc_v ad v) = tc_v ad v ∧ fits ty (tc_v ad v) = true) (hd : decode M.1 pc = .ok (.putfield idx, 3)) (he : h[q]? = some (.inr (ci, fs))) (hk : j < fs.length) (hfs : fs.set j v = fs') (hh : h.set q (.inr (ci, fs')) = h') (kk : tc_V M K nc ns h' (pc + 3) L st) : tc_V M K nc ns h pc L (v :: .inr (some q) :: st) := by
  intro l p e s m args below meth c D tg ad0 ad B hG H locs ls hP hD hS hL
  obtain ⟨hc, hkN, hu, hl⟩ := hF
  obtain ⟨g1, g2⟩ := hT
  refine va_putF B.1 B.2.1 B.2.2.2.2.1 hu ty0 g1 g2 B.2.2.2.1 B.2.2.2.2.2.1 hP hD hS q (tc_w_at he) hc j hkN (B.2.2.2.2.1 _ hl) (fun _ z => z) g3 (by rw [B.2.2.2.2.2.2.2.2.2, g5]) g6 (ty := ty) (v := tc_v ad v) g4 (gv ad).1 (gv ad).2 (by simpa using hk) hd (fun H1 locs1 hP1 hD1 hS1 => ?_)
  have ew : (tc_w ad tg h).set q (ad q, .inr (ci, (fs.map (tc_v ad)).set j (tc_v ad v))) = tc_w ad tg h' := by
    have e1 : (fs.map (tc_v ad)).set j (tc_v ad v) = fs'.map (tc_v ad) := by
      rw [← hfs, List.map_set]
    rw [e1, ← hh]
    exact tc_w_set (c := .inr (ci, fs'))
  rw [ew] at hP1 hD1
  exact kk l p e s m args below meth c D tg ad0 ad B ⟨by rw [← hh, List.length_set]; exact hG.1, hG.2⟩ H1 locs1 ls hP1 hD1 hS1 hL
theorem tv_objI {idx q : Nat} (hl : Cond.methodLink M.2.2.1 idx objectInit ∈ tc_T) (hi : Cond.instanceMethod objectInit ∈ tc_T) (hcd : Cond.code objectInit ⟨#[0xb1]⟩ 1 none ∈ tc_T) (hd : decode M.1 pc = .ok (.invokespecial idx, 3)) (hdd : 0 < M.2.2.2.2.1) (hst : st.length ≤ 8) (k : tc_V M K nc ns h (pc + 3) L st) : tc_V M K nc ns h pc L (.inr (some q) :: st) := by
  intro l p e s m args below meth c D tg ad0 ad B hG H locs ls hP hD hS hL
  refine W.objInit B.1 B.2.1 B.2.2.2.1 (B.2.2.2.2.1 _ hl) (B.2.2.2.2.1 _ hi) (B.2.2.2.2.1 _ hcd) rfl (by rw [B.2.2.1]; exact hL.1) rfl hd hdd ?_ (k l p e s m args below meth c D tg ad0 ad B hG H locs ls hP hD hS hL)
  show 2 * 0 + ((st.map (tc_v ad)).map fun v => v.category).sum + 12 ≤ 32 * M.2.2.2.2.1
  rw [tc_catsum]
  omega
end TA
theorem tv_callI {M : tcM} {K : tcK} {nc ns mc ms : Nat} {h h' : List tcC} {pc : Nat} {L : List (Option tcV)} {rest : List tcV} {y : MethodName} {cc : ByteArray} {nL idx d' q : Nat} {n : Nat} (hn : n = 0) (hM : tc_M y cc nL none d' [.inr (some q)] (h, none, h', mc, ms)) (hY : tc_Y y cc nL none n) (hl : Cond.methodLink M.2.2.1 idx y ∈ tc_T) (hy : y.name = "<init>") (hi : Cond.instanceMethod y ∈ tc_T) (hdd : d' < M.2.2.2.2.1) (hrest : rest.length ≤ 8) (hwf : tc_okL h.length L = true ∧ tc_okS h.length rest = true) (hd : decode M.1 pc = .ok (.invokespecial idx, 3)) (hcs : nc + mc ≤ K.2.2.2.1 ∧ ns + ms ≤ K.2.2.2.2) (k : tc_V M K (nc + mc) (ns + ms) h' (pc + 3) L rest) : tc_V M K nc ns h pc L (.inr (some q) :: rest) := by
  intro l p e s m args below meth c D tg ad0 ad B hG H locs ls hP hD hS hL
  obtain ⟨y1, y2, y3, y4⟩ := hY
  obtain ⟨hx, hb, hml, hown, hts, hK, hN, hrt, hlk, hnm⟩ := id B
  exact tc_go (r := none) B hG hD hS hL hM.1 hwf (va_runI (b := ad q) (As := []) (n := n) ⟨hx, hb, hml, hown, hts⟩ (hM.2 l D tg ad H.size) ⟨callB_of n hts (tc_goodIn y1) rfl rfl rfl (hts _ y2) (hts _ hl) y3 (tc_room hdd y4), hy, hts _ hi⟩ ⟨tc_blind, tc_pre (As := [.inr (some q)]) B hP hD⟩ rfl hn.symm hL.1 rfl (tc_mroom hrest) hd hcs) k
theorem tv_callIN {M : tcM} {K : tcK} {nc ns mc ms : Nat} {h h' : List tcC} {pc : Nat} {L : List (Option tcV)} {rest : List tcV} {y : MethodName} {cc : ByteArray} {nL idx d' q : Nat} {n : Nat} (hn : n = 0) (hM : tc_M y cc nL none d' [.inr (some q)] (h, none, h', mc, ms)) (hY : tc_Y y cc nL none n) {host : String} (hl : (M.2.2.1, idx, y, host) ∈ tc_nest) (hy : y.name = "<init>") (hi : Cond.instanceMethod y ∈ tc_T) (hdd : d' < M.2.2.2.2.1) (hrest : rest.length ≤ 8) (hwf : tc_okL h.length L = true ∧ tc_okS h.length rest = true) (hd : decode M.1 pc = .ok (.invokespecial idx, 3)) (hcs : nc + mc ≤ K.2.2.2.1 ∧ ns + ms ≤ K.2.2.2.2) (k : tc_V M K (nc + mc) (ns + ms) h' (pc + 3) L rest) : tc_V M K nc ns h pc L (.inr (some q) :: rest) := by
  intro l p e s m args below meth c D tg ad0 ad B hG H locs ls hP hD hS hL
  obtain ⟨y1, y2, y3, y4⟩ := hY
  obtain ⟨hx, hb, hml, hown, hts, hK, hN, hrt, hlk, hnm⟩ := id B
  exact tc_go (r := none) B hG hD hS hL hM.1 hwf (va_runIN (b := ad q) (As := []) (n := n) ⟨hx, hb, hml, hown, hts⟩ (hM.2 l D tg ad H.size) ⟨va_cnB n hts (tc_goodIn y1) rfl rfl rfl (hN _ hl) (hts _ y2) y3 (tc_room hdd y4), hy, hts _ hi⟩ ⟨tc_blind, tc_pre (As := [.inr (some q)]) B hP hD⟩ rfl hn.symm hL.1 rfl (tc_mroom hrest) hd hcs) k
