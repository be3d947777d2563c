/-! THE PURE LAYER: a method's walk told over pure cells (tcC), with no machine in the goal. A value: an int, null, or the place of a cell. -/
abbrev tcV : Type := Int32 ⊕ Option Nat
def tc_v (ad : Nat → Nat) (v : tcV) : Value := match v with
  | .inl x => .int x
  | .inr none => .null
  | .inr (some k) => .ref (ad k)
theorem tc_cat (ad : Nat → Nat) (v : tcV) : (tc_v ad v).category = 1 := by
  rcases v with x | (_ | k) <;> rfl
/-- a cell: an array (tag, length, contents: ints or places), or an object (number of its class, fields) -/
abbrev tcC : Type := (Nat × Nat × ((Nat → Int32) ⊕ (Nat → Option Nat))) ⊕ (Nat × List tcV)
def tc_e (ad : Nat → Nat) (tg : Nat → ClassId) (c : tcC) : va_E := match c with
  | .inl (t, n, .inl f) => .inl (tg t, n, .inl f)
  | .inl (t, n, .inr g) => .inl (tg t, n, .inr (.inr (.inr (.inr (fun j => (g j).map ad)))))
  | .inr (ci, fs) => .inr (ci, fs.map (tc_v ad))
def tc_w (ad : Nat → Nat) (tg : Nat → ClassId) (h : List tcC) : va_W := h.mapIdx (fun k c => (ad k, tc_e ad tg c))
theorem tc_w_at {ad : Nat → Nat} {tg : Nat → ClassId} {h : List tcC} {k : Nat} {c : tcC} (hk : h[k]? = some c) : (tc_w ad tg h)[k]? = some (ad k, tc_e ad tg c) := by
  simp [tc_w, List.getElem?_mapIdx, hk]
theorem tc_w_set {ad : Nat → Nat} {tg : Nat → ClassId} {h : List tcC} {k : Nat} {c : tcC} : (tc_w ad tg h).set k (ad k, tc_e ad tg c) = tc_w ad tg (h.set k c) := by
  simp [tc_w, List.mapIdx_set]
/-- places below n -/
def tc_ok (n : Nat) (v : tcV) : Bool := match v with
  | .inr (some k) => decide (k < n)
  | _ => true
def tc_okL (n : Nat) (L : List (Option tcV)) : Bool := L.all (fun o => match o with
  | some v => tc_ok n v
  | none => true)
def tc_okS (n : Nat) (st : List tcV) : Bool := st.all (tc_ok n)
theorem tc_v_ag {n : Nat} {ad ad' : Nat → Nat} (ha : ∀ k, k < n → ad' k = ad k) {v : tcV} (hv : tc_ok n v = true) : tc_v ad' v = tc_v ad v := by
  rcases v with x | (_ | k)
  · rfl
  · rfl
  · show Value.ref (ad' k) = Value.ref (ad k)
    rw [ha k (of_decide_eq_true hv)]
theorem tc_vs_ag {n : Nat} {ad ad' : Nat → Nat} (ha : ∀ k, k < n → ad' k = ad k) {st : List tcV} (hv : tc_okS n st = true) : st.map (tc_v ad') = st.map (tc_v ad) := by
  refine List.map_congr_left (fun v hm => tc_v_ag ha ?_)
  exact List.all_eq_true.mp hv v hm
/-- the tables' words that every method takes along -/
def tc_T : List Cond := lw_tbl.filter goodWord
theorem tc_T_good : ∀ w ∈ tc_T, ((w.onTables && w.keeps) = true ∨ ∃ ty, w = .arrayClass ty) := fun w h => good_of_word (List.mem_filter.mp h).2
theorem tc_in {w : Cond} (h : w ∈ lw_tbl) (hg : goodWord w = true) : w ∈ tc_T := List.mem_filter.mpr ⟨h, hg⟩
theorem tc_goodIn {w : Cond} (h : w ∈ tc_T) : GoodIn tc_T (w :: tc_T) := fun v hv => by
  rcases List.mem_cons.mp hv with rfl | hv
  · exact ⟨h, tc_T_good _ h⟩
  · exact ⟨hv, tc_T_good _ hv⟩
def tc_N (U : State) : Prop := ∀ q ∈ tc_nest, va_Nw (.methodLinkNest q.1 q.2.1 q.2.2.1 q.2.2.2) U
theorem tc_N.warm {s U : State} (hW : s.WarmedH U.vm) (h : tc_N s) : tc_N U := fun q hq => va_Nw.warmM hW (h q hq)
theorem tc_N.same {u U : State} (e : u.vm = U.vm) (h : tc_N u) : tc_N U := fun q hq => va_Nw.same rfl e (h q hq)
def tc_ty (tg : Nat → ClassId) : List (ClassId × FieldType) := [(tg 0, .int), (tg 1, .boolean)]
def tc_U (D : va_G) (tg : Nat → ClassId) (ad : Nat → Nat) (sz : Nat) (h : List tcC) (U : State) : Prop :=
  U.heap.size = sz ∧ va_P D vwCl (tc_w ad tg h) U.heap ∧ va_K D vwCl (tc_ty tg) U ∧ va_D (fun _ => True) (tc_w ad tg h) ∧ tc_N U
/-- what a method is held to: the cells before, its answer, the cells behind, how many cells and slots it may make -/
abbrev tcK : Type := List tcC × Option tcV × List tcC × Nat × Nat
def tc_Q (D : va_G) (tg : Nat → ClassId) (ad0 : Nat → Nat) (sz : Nat) (K : tcK) : Array Value → State → Outcome → State → Prop := fun _ st oc t =>
  ∃ ad : Nat → Nat, (∀ k, k < K.1.length → ad k = ad0 k) ∧ oc = .returned (K.2.1.map (tc_v ad)) ∧ va_P D vwCl (tc_w ad tg K.2.2.1) t.heap ∧ va_D (va_A (tc_w ad0 tg K.1) sz) (tc_w ad tg K.2.2.1) ∧ va_F (va_A (tc_w ad0 tg K.1) sz) st t
def tc_rm (d mc ms : Nat) : Room := { frames := d, cells := mc, slots := ms, locals := 32 * d }
/-- a method's contract: from the cells K.1 with these arguments it returns K.2.1, and the cells are K.2.2.1 -/
def tc_M (y : MethodName) (cc : ByteArray) (nL : Nat) (ret : Option FieldType) (d : Nat) (As : List tcV) (K : tcK) : Prop :=
  K.1.length ≤ K.2.2.1.length ∧ ∀ (l : Launch) (D : va_G) (tg : Nat → ClassId) (ad : Nat → Nat) (sz : Nat), Met l y (.code y cc nL ret :: tc_T) (tc_rm d K.2.2.2.1 K.2.2.2.2) (va_Pc (As.map (tc_v ad)) (tc_U D tg ad sz K.1)) (tc_Q D tg ad sz K) K.2.2.2.1 K.2.2.2.2 (va_A (tc_w ad tg K.1) sz)
/-- a method's own data: code, locals, class, type of its answer, depth, name -/
abbrev tcM : Type := ByteArray × Nat × String × Option FieldType × Nat × String
def tc_B (M : tcM) (p : Program) (s : State) (m : MethodId) (args : Array Value) (meth : Method) (c : Code) (D : va_G) (tg : Nat → ClassId) : Prop :=
  p.tables.exec = Jvm.exec ∧ c.code = M.1 ∧ c.maxLocals = M.2.1 ∧ s.vm.findClass M.2.2.1 = some m.cls ∧ (∀ w ∈ tc_T, w.before args s = true) ∧ va_K D vwCl (tc_ty tg) s ∧ tc_N s ∧ meth.sig.returnType = M.2.2.2.1 ∧ meth.locks = false ∧ meth.name = M.2.2.2.2.2
def tc_L (ad : Nat → Nat) (ls : Array Slot) (nL : Nat) (L : List (Option tcV)) : Prop := ls.size = nL ∧ lv_wf ls ∧ ∀ (i : Nat) (v : tcV), L[i]? = some (some v) → ls[i]? = some (.val (tc_v ad v))
theorem tc_L_ag {n : Nat} {ad ad' : Nat → Nat} (ha : ∀ k, k < n → ad' k = ad k) {L : List (Option tcV)} (hv : tc_okL n L = true) {ls : Array Slot} {nL : Nat} (h : tc_L ad ls nL L) : tc_L ad' ls nL L := by
  refine ⟨h.1, h.2.1, fun i v hi => ?_⟩
  have h1 := List.all_eq_true.mp hv _ (List.mem_of_getElem? hi)
  rw [tc_v_ag ha h1]
  exact h.2.2 i v hi
/-- THE JUDGEMENT: from these cells, at pc, with these locals and this stack, cc cells of ss slots being made, the method comes to what K asks -/
def tc_V (M : tcM) (K : tcK) (nc ns : Nat) (h : List tcC) (pc : Nat) (L : List (Option tcV)) (st : List tcV) : Prop :=
  ∀ (l : Launch) (p : Program) (e : Env) (s : State) (m : MethodId) (args : Array Value) (below : List Frame) (meth : Method) (c : Code) (D : va_G) (tg : Nat → ClassId) (ad0 ad : Nat → Nat), tc_B M p s m args meth c D tg →
  (K.1.length ≤ h.length ∧ ∀ k, k < K.1.length → ad k = ad0 k) →
  ∀ (H : Heap) (locs : List Loc) (ls : Array Slot), va_P D vwCl (tc_w ad tg h) H → va_D (va_A (tc_w ad0 tg K.1) s.heap.size) (tc_w ad tg h) → va_S (va_A (tc_w ad0 tg K.1) s.heap.size) s.heap H locs → tc_L ad ls M.2.1 L →
  W p l e (tc_rm M.2.2.2.2.1 K.2.2.2.1 K.2.2.2.2) s m args below meth c H locs nc ns (MQ below (tc_Q D tg ad0 s.heap.size K) args s K.2.2.2.1 K.2.2.2.2 (va_A (tc_w ad0 tg K.1) s.heap.size)) (F0 m pc ls (st.map (tc_v ad)))
/-! the locals -/
theorem tc_lg (ad : Nat → Nat) : ∀ (vs : List tcV), (lg_sl (vs.map (tc_v ad))).length = vs.length
  | [] => rfl
  | v :: vs => by
    have ih := tc_lg ad vs
    simp only [lg_sl, List.map_cons, List.flatMap_cons, tc_cat] at ih ⊢
    simp [ih]
theorem tc_arg (ad : Nat → Nat) : ∀ (vs : List tcV) (k i : Nat) (v : tcV), vs[i]? = some v → (k + i, tc_v ad v) ∈ lv_args k (vs.map (tc_v ad))
  | [], k, i, v, h => by simp at h
  | w :: vs, k, i, v, h => by
    simp only [List.map_cons, lv_args, tc_cat]
    cases i with
    | zero =>
      simp at h
      subst h
      exact List.mem_cons_self
    | succ i =>
      have h1 := tc_arg ad vs (k + 1) i v (by simpa using h)
      refine List.mem_cons_of_mem _ ?_
      have e : k + (i + 1) = k + 1 + i := by omega
      rw [e]
      simpa using h1
def tc_ll (ad : Nat → Nat) (L : List (Option tcV)) : List (Nat × Value) := (List.range L.length).filterMap (fun i => match L[i]? with
  | some (some v) => some (i, tc_v ad v)
  | _ => none)
theorem tc_ll_in {ad : Nat → Nat} {L : List (Option tcV)} {i : Nat} {v : tcV} (h : L[i]? = some (some v)) : (i, tc_v ad v) ∈ tc_ll ad L := by
  refine List.mem_filterMap.mpr ⟨i, List.mem_range.mpr (List.getElem?_eq_some_iff.mp h).1, ?_⟩
  rw [h]
theorem tc_ll_has {ad : Nat → Nat} {ls : Array Slot} {nL : Nat} {L : List (Option tcV)} (h : tc_L ad ls nL L) : lv_has ls nL (tc_ll ad L) := by
  refine ⟨h.1, h.2.1, fun q hq => ?_⟩
  obtain ⟨i, -, hi⟩ := List.mem_filterMap.mp hq
  split at hi
  · rename_i v hv
    cases hi
    exact h.2.2 i v hv
  · cases hi
theorem tc_L_set {ad : Nat → Nat} {ls : Array Slot} {nL i : Nat} {L : List (Option tcV)} {w : tcV} (h : lv_has ls nL ((i, tc_v ad w) :: (tc_ll ad L).filter (fun q => !(q.1 == i) && !(q.1 + 1 == i && q.2.category == 2)))) : tc_L ad ls nL (L.set i (some w)) := by
  refine ⟨h.1, h.2.1, fun j v hj => ?_⟩
  by_cases hji : j = i
  · subst hji
    have hlt : j < L.length := by
      have := (List.getElem?_eq_some_iff.mp hj).1
      simpa using this
    rw [List.getElem?_set_self hlt] at hj
    cases hj
    exact h.2.2 _ List.mem_cons_self
  · rw [List.getElem?_set_ne (fun q => hji q.symm)] at hj
    refine h.2.2 (j, tc_v ad v) (List.mem_cons_of_mem _ (List.mem_filter.mpr ⟨tc_ll_in hj, ?_⟩))
    simp [hji, tc_cat]
theorem tc_met {y : MethodName} {cc : ByteArray} {nL : Nat} {ret : Option FieldType} {d : Nat} {As : List tcV} {K : tcK} {L : List (Option tcV)} (hy : plainName y.cls = true) (hn : As.length ≤ nL) (hlen : K.1.length ≤ K.2.2.1.length) (hLe : As.map some ++ List.replicate (nL - As.length) none = L)
    (k : tc_V (cc, nL, y.cls, ret, d, y.name) K 0 0 K.1 0 L []) : tc_M y cc nL ret d As K := by
  refine ⟨hlen, ?_⟩
  intro l D tg ad sz
  refine Met.ofW (cc := cc) (maxL := nL) (ret := ret) hy rfl ?_
  intro p e s m args below meth c s₁ B hml hv
  obtain ⟨rfl, hsz, hP, hK, hD0, hN⟩ := hv
  subst hsz
  have hl := lv_entry (As.map (tc_v ad)) (n := nL) (by rw [tc_lg]; exact hn)
  rw [lg_entry_eq]
  refine k l p e s m _ below meth c D tg ad ad ⟨B.exec, B.bytes, hml, findClass_of_methodNamed B.named, fun w hw => atoms_spec (ws := .code y cc nL ret :: tc_T) B.pre w (List.mem_cons_of_mem _ hw), hK, hN, B.returns, B.notSynchronized, (name_of_methodNamed B.named B.method).1⟩ ⟨Nat.le_refl _, fun _ _ => rfl⟩ s.heap [] _ hP hD0.self va_S.rf ⟨hl.1, hl.2.1, fun i v hi => ?_⟩
  subst hLe
  have h2 : As[i]? = some v := by
    by_cases hlt : i < As.length
    · rw [List.getElem?_append_left (by simpa using hlt)] at hi
      simpa using hi
    · rw [List.getElem?_append_right (by simpa using Nat.not_lt.mp hlt)] at hi
      rw [List.getElem?_replicate] at hi
      split at hi <;> cases hi
  have h3 := tc_arg ad As 0 i v h2
  rw [Nat.zero_add] at h3
  exact hl.2.2 _ h3
section TV
variable {M : tcM} {K : tcK} {nc ns : Nat} {h : List tcC} {pc : Nat} {L : List (Option tcV)} {st : List tcV}
theorem tv_iconst {n : Int} {v : Int32} (hd : decode M.1 pc = .ok (.iconst n, 1)) (hv : Int32.ofInt n = v) (k : tc_V M K nc ns h (pc + 1) L (.inl v :: st)) : tc_V M K nc ns h pc L (st) := by
  intro l p e s m args below meth c D tg ad0 ad B hG H locs ls hP hD hS hL
  exact lv_iconst B.1 B.2.1 hd hv (k l p e s m args below meth c D tg ad0 ad B hG H locs ls hP hD hS hL)
theorem tv_bipush {n : Int} {v : Int32} (hd : decode M.1 pc = .ok (.bipush n, 2)) (hv : (Int8.ofInt n).toInt32 = v) (k : tc_V M K nc ns h (pc + 2) L (.inl v :: st)) : tc_V M K nc ns h pc L (st) := by
  intro l p e s m args below meth c D tg ad0 ad B hG H locs ls hP hD hS hL
  exact lv_bipush B.1 B.2.1 hd hv (k l p e s m args below meth c D tg ad0 ad B hG H locs ls hP hD hS hL)
theorem tv_sipush {n : Int} {v : Int32} (hd : decode M.1 pc = .ok (.sipush n, 3)) (hv : (Int16.ofInt n).toInt32 = v) (k : tc_V M K nc ns h (pc + 3) L (.inl v :: st)) : tc_V M K nc ns h pc L (st) := by
  intro l p e s m args below meth c D tg ad0 ad B hG H locs ls hP hD hS hL
  exact lv_sipush B.1 B.2.1 hd hv (k l p e s m args below meth c D tg ad0 ad B hG H locs ls hP hD hS hL)
theorem tv_iload_n {k : Fin 4} {i : Nat} {x : Int32} (hd : decode M.1 pc = .ok (.iload_n k, 1)) (hi : (k : Nat) = i) (hl : L[i]? = some (some (.inl x))) (k : tc_V M K nc ns h (pc + 1) L (.inl x :: st)) : tc_V M K nc ns h pc L st := by
  intro l p e s m args below meth c D tg ad0 ad B hG H locs ls hP hD hS hL
  exact lv_iload_n B.1 B.2.1 hd hi (hL.2.2 i _ hl) (k l p e s m args below meth c D tg ad0 ad B hG H locs ls hP hD hS hL)
theorem tv_iload  {i : Nat} {x : Int32} (hd : decode M.1 pc = .ok (.iload i, 2)) (hl : L[i]? = some (some (.inl x))) (k : tc_V M K nc ns h (pc + 2) L (.inl x :: st)) : tc_V M K nc ns h pc L st := by
  intro l p e s m args below meth c D tg ad0 ad B hG H locs ls hP hD hS hL
  exact lv_iload B.1 B.2.1 hd (hL.2.2 i _ hl) (k l p e s m args below meth c D tg ad0 ad B hG H locs ls hP hD hS hL)
theorem tv_aload_n {k : Fin 4} {i x : Nat} (hd : decode M.1 pc = .ok (.aload_n k, 1)) (hi : (k : Nat) = i) (hl : L[i]? = some (some (.inr (some x)))) (k : tc_V M K nc ns h (pc + 1) L (.inr (some x) :: st)) : tc_V M K nc ns h pc L st := by
  intro l p e s m args below meth c D tg ad0 ad B hG H locs ls hP hD hS hL
  exact lv_aload_n B.1 B.2.1 hd hi (hL.2.2 i _ hl) (k l p e s m args below meth c D tg ad0 ad B hG H locs ls hP hD hS hL)
theorem tv_aload  {i x : Nat} (hd : decode M.1 pc = .ok (.aload i, 2)) (hl : L[i]? = some (some (.inr (some x)))) (k : tc_V M K nc ns h (pc + 2) L (.inr (some x) :: st)) : tc_V M K nc ns h pc L st := by
  intro l p e s m args below meth c D tg ad0 ad B hG H locs ls hP hD hS hL
  exact lv_aload B.1 B.2.1 hd (hL.2.2 i _ hl) (k l p e s m args below meth c D tg ad0 ad B hG H locs ls hP hD hS hL)
theorem tv_istore_n {k : Fin 4} {x : Int32} {i : Nat} {L' : List (Option tcV)} (hd : decode M.1 pc = .ok (.istore_n k, 1)) (hi : (k : Nat) = i) (hn : i < M.2.1) (hl : L.set i (some (.inl x)) = L') (k : tc_V M K nc ns h (pc + 1) L' st) : tc_V M K nc ns h pc L (.inl x :: st) := by
  intro l p e s m args below meth c D tg ad0 ad B hG H locs ls hP hD hS hL
  refine lv_istore_n B.1 B.2.1 hd hi (tc_ll_has hL) hn rfl (fun ls' h' => ?_)
  subst hl
  exact k l p e s m args below meth c D tg ad0 ad B hG H locs ls' hP hD hS (tc_L_set (w := .inl x) h')
theorem tv_istore {x : Int32} {i : Nat} {L' : List (Option tcV)} (hd : decode M.1 pc = .ok (.istore i, 2)) (hn : i < M.2.1) (hl : L.set i (some (.inl x)) = L') (k : tc_V M K nc ns h (pc + 2) L' st) : tc_V M K nc ns h pc L (.inl x :: st) := by
  intro l p e s m args below meth c D tg ad0 ad B hG H locs ls hP hD hS hL
  refine lv_istore B.1 B.2.1 hd (tc_ll_has hL) hn rfl (fun ls' h' => ?_)
  subst hl
  exact k l p e s m args below meth c D tg ad0 ad B hG H locs ls' hP hD hS (tc_L_set (w := .inl x) h')
theorem tv_astore_n {k : Fin 4} {x : Nat} {i : Nat} {L' : List (Option tcV)} (hd : decode M.1 pc = .ok (.astore_n k, 1)) (hi : (k : Nat) = i) (hn : i < M.2.1) (hl : L.set i (some (.inr (some x))) = L') (k : tc_V M K nc ns h (pc + 1) L' st) : tc_V M K nc ns h pc L (.inr (some x) :: st) := by
  intro l p e s m args below meth c D tg ad0 ad B hG H locs ls hP hD hS hL
  refine lv_astore_n B.1 B.2.1 hd hi (tc_ll_has hL) hn rfl (fun ls' h' => ?_)
  subst hl
  exact k l p e s m args below meth c D tg ad0 ad B hG H locs ls' hP hD hS (tc_L_set (w := .inr (some x)) h')
theorem tv_astore {x : Nat} {i : Nat} {L' : List (Option tcV)} (hd : decode M.1 pc = .ok (.astore i, 2)) (hn : i < M.2.1) (hl : L.set i (some (.inr (some x))) = L') (k : tc_V M K nc ns h (pc + 2) L' st) : tc_V M K nc ns h pc L (.inr (some x) :: st) := by
  intro l p e s m args below meth c D tg ad0 ad B hG H locs ls hP hD hS hL
  refine lv_astore B.1 B.2.1 hd (tc_ll_has hL) hn rfl (fun ls' h' => ?_)
  subst hl
  exact k l p e s m args below meth c D tg ad0 ad B hG H locs ls' hP hD hS (tc_L_set (w := .inr (some x)) h')
theorem tv_iinc {i : Nat} {n : Int} {x v : Int32} {L' : List (Option tcV)} (hd : decode M.1 pc = .ok (.iinc i n, 3)) (hx : L[i]? = some (some (.inl x))) (hv : x + Int32.ofInt n = v) (hn : i < M.2.1) (hl : L.set i (some (.inl v)) = L') (k : tc_V M K nc ns h (pc + 3) L' st) : tc_V M K nc ns h pc L st := by
  intro l p e s m args below meth c D tg ad0 ad B hG H locs ls hP hD hS hL
  obtain ⟨j, hj⟩ := List.getElem?_of_mem (tc_ll_in (ad := ad) hx)
  refine lv_iinc (k := j) B.1 B.2.1 hd (tc_ll_has hL) hj hv hn rfl (fun ls' h' => ?_)
  subst hl
  exact k l p e s m args below meth c D tg ad0 ad B hG H locs ls' hP hD hS (tc_L_set (w := .inl v) h')
theorem tv_iadd {x y : Int32} (hd : decode M.1 pc = .ok (.iadd, 1)) (k : tc_V M K nc ns h (pc + 1) L (.inl (x + y) :: st)) : tc_V M K nc ns h pc L (.inl y :: .inl x :: st) := by
  intro l p e s m args below meth c D tg ad0 ad B hG H locs ls hP hD hS hL
  exact lv_iadd B.1 B.2.1 hd (k l p e s m args below meth c D tg ad0 ad B hG H locs ls hP hD hS hL)
theorem tv_isub {x y : Int32} (hd : decode M.1 pc = .ok (.isub, 1)) (k : tc_V M K nc ns h (pc + 1) L (.inl (x - y) :: st)) : tc_V M K nc ns h pc L (.inl y :: .inl x :: st) := by
  intro l p e s m args below meth c D tg ad0 ad B hG H locs ls hP hD hS hL
  exact lv_isub B.1 B.2.1 hd (k l p e s m args below meth c D tg ad0 ad B hG H locs ls hP hD hS hL)
theorem tv_imul {x y : Int32} (hd : decode M.1 pc = .ok (.imul, 1)) (k : tc_V M K nc ns h (pc + 1) L (.inl (x * y) :: st)) : tc_V M K nc ns h pc L (.inl y :: .inl x :: st) := by
  intro l p e s m args below meth c D tg ad0 ad B hG H locs ls hP hD hS hL
  exact lv_imul B.1 B.2.1 hd (k l p e s m args below meth c D tg ad0 ad B hG H locs ls hP hD hS hL)
theorem tv_iand {x y : Int32} (hd : decode M.1 pc = .ok (.iand, 1)) (k : tc_V M K nc ns h (pc + 1) L (.inl (x &&& y) :: st)) : tc_V M K nc ns h pc L (.inl y :: .inl x :: st) := by
  intro l p e s m args below meth c D tg ad0 ad B hG H locs ls hP hD hS hL
  exact lv_iand B.1 B.2.1 hd (k l p e s m args below meth c D tg ad0 ad B hG H locs ls hP hD hS hL)
theorem tv_ior {x y : Int32} (hd : decode M.1 pc = .ok (.ior, 1)) (k : tc_V M K nc ns h (pc + 1) L (.inl (x ||| y) :: st)) : tc_V M K nc ns h pc L (.inl y :: .inl x :: st) := by
  intro l p e s m args below meth c D tg ad0 ad B hG H locs ls hP hD hS hL
  exact lv_ior B.1 B.2.1 hd (k l p e s m args below meth c D tg ad0 ad B hG H locs ls hP hD hS hL)
theorem tv_ixor {x y : Int32} (hd : decode M.1 pc = .ok (.ixor, 1)) (k : tc_V M K nc ns h (pc + 1) L (.inl (x ^^^ y) :: st)) : tc_V M K nc ns h pc L (.inl y :: .inl x :: st) := by
  intro l p e s m args below meth c D tg ad0 ad B hG H locs ls hP hD hS hL
  exact lv_ixor B.1 B.2.1 hd (k l p e s m args below meth c D tg ad0 ad B hG H locs ls hP hD hS hL)
theorem tv_ishl {x y : Int32} (hd : decode M.1 pc = .ok (.ishl, 1)) (k : tc_V M K nc ns h (pc + 1) L (.inl (x <<< (y &&& 31)) :: st)) : tc_V M K nc ns h pc L (.inl y :: .inl x :: st) := by
  intro l p e s m args below meth c D tg ad0 ad B hG H locs ls hP hD hS hL
  exact lv_ishl B.1 B.2.1 hd (k l p e s m args below meth c D tg ad0 ad B hG H locs ls hP hD hS hL)
theorem tv_ishr {x y : Int32} (hd : decode M.1 pc = .ok (.ishr, 1)) (k : tc_V M K nc ns h (pc + 1) L (.inl (x >>> (y &&& 31)) :: st)) : tc_V M K nc ns h pc L (.inl y :: .inl x :: st) := by
  intro l p e s m args below meth c D tg ad0 ad B hG H locs ls hP hD hS hL
  exact lv_ishr B.1 B.2.1 hd (k l p e s m args below meth c D tg ad0 ad B hG H locs ls hP hD hS hL)
theorem tv_ineg {x : Int32} (hd : decode M.1 pc = .ok (.ineg, 1)) (k : tc_V M K nc ns h (pc + 1) L (.inl (-x) :: st)) : tc_V M K nc ns h pc L (.inl x :: st) := by
  intro l p e s m args below meth c D tg ad0 ad B hG H locs ls hP hD hS hL
  exact lv_ineg B.1 B.2.1 hd (k l p e s m args below meth c D tg ad0 ad B hG H locs ls hP hD hS hL)
theorem tv_iushr {x y : Int32} (hd : decode M.1 pc = .ok (.iushr, 1)) (k : tc_V M K nc ns h (pc + 1) L (.inl ((x.toUInt32 >>> (y.toUInt32 &&& Int32.toUInt32 31)).toInt32) :: st)) : tc_V M K nc ns h pc L (.inl y :: .inl x :: st) := by
  intro l p e s m args below meth c D tg ad0 ad B hG H locs ls hP hD hS hL
  exact lv_iushr B.1 B.2.1 hd rfl (k l p e s m args below meth c D tg ad0 ad B hG H locs ls hP hD hS hL)
theorem tv_dup {a : tcV} (hd : decode M.1 pc = .ok (.dup, 1)) (k : tc_V M K nc ns h (pc + 1) L (a :: a :: st)) : tc_V M K nc ns h pc L (a :: st) := by
  intro l p e s m args below meth c D tg ad0 ad B hG H locs ls hP hD hS hL
  exact lv_dup B.1 B.2.1 hd (tc_cat ad a) (k l p e s m args below meth c D tg ad0 ad B hG H locs ls hP hD hS hL)
theorem tv_pop {a : tcV} (hd : decode M.1 pc = .ok (.pop, 1)) (k : tc_V M K nc ns h (pc + 1) L (st)) : tc_V M K nc ns h pc L (a :: st) := by
  intro l p e s m args below meth c D tg ad0 ad B hG H locs ls hP hD hS hL
  exact lv_pop B.1 B.2.1 hd (tc_cat ad a) (k l p e s m args below meth c D tg ad0 ad B hG H locs ls hP hD hS hL)
theorem tv_dup2 {a b : tcV} (hd : decode M.1 pc = .ok (.dup2, 1)) (k : tc_V M K nc ns h (pc + 1) L (a :: b :: a :: b :: st)) : tc_V M K nc ns h pc L (a :: b :: st) := by
  intro l p e s m args below meth c D tg ad0 ad B hG H locs ls hP hD hS hL
  exact lv_dup2_11 B.1 B.2.1 hd (tc_cat ad a) (tc_cat ad b) (k l p e s m args below meth c D tg ad0 ad B hG H locs ls hP hD hS hL)
theorem tv_dup_x1 {a b : tcV} (hd : decode M.1 pc = .ok (.dup_x1, 1)) (k : tc_V M K nc ns h (pc + 1) L (a :: b :: a :: st)) : tc_V M K nc ns h pc L (a :: b :: st) := by
  intro l p e s m args below meth c D tg ad0 ad B hG H locs ls hP hD hS hL
  exact lv_dup_x1 B.1 B.2.1 hd (tc_cat ad a) (tc_cat ad b) (k l p e s m args below meth c D tg ad0 ad B hG H locs ls hP hD hS hL)
theorem tv_if_eq {x : Int32} {off : Int} {tgt : Nat} (hd : decode M.1 pc = .ok (.ifCond .eq off, 3)) (ht : (pc : Int) + off = (tgt : Int)) (kt : x = 0 → tc_V M K nc ns h tgt L st) (kf : ¬ x = 0 → tc_V M K nc ns h (pc + 3) L st) : tc_V M K nc ns h pc L (.inl x :: st) := by
  intro l p e s m args below meth c D tg ad0 ad B hG H locs ls hP hD hS hL
  exact lv_if_eq B.1 B.2.1 hd ht (fun z => kt z l p e s m args below meth c D tg ad0 ad B hG H locs ls hP hD hS hL) (fun z => kf z l p e s m args below meth c D tg ad0 ad B hG H locs ls hP hD hS hL)
theorem tv_icmp_eq {x y : Int32} {off : Int} {tgt : Nat} (hd : decode M.1 pc = .ok (.if_icmp .eq off, 3)) (ht : (pc : Int) + off = (tgt : Int)) (kt : x = y → tc_V M K nc ns h tgt L st) (kf : ¬ x = y → tc_V M K nc ns h (pc + 3) L st) : tc_V M K nc ns h pc L (.inl y :: .inl x :: st) := by
  intro l p e s m args below meth c D tg ad0 ad B hG H locs ls hP hD hS hL
  exact lv_icmp_eq B.1 B.2.1 hd ht (fun z => kt z l p e s m args below meth c D tg ad0 ad B hG H locs ls hP hD hS hL) (fun z => kf z l p e s m args below meth c D tg ad0 ad B hG H locs ls hP hD hS hL)
theorem tv_if_ne {x : Int32} {off : Int} {tgt : Nat} (hd : decode M.1 pc = .ok (.ifCond .ne off, 3)) (ht : (pc : Int) + off = (tgt : Int)) (kt : ¬ x = 0 → tc_V M K nc ns h tgt L st) (kf : x = 0 → tc_V M K nc ns h (pc + 3) L st) : tc_V M K nc ns h pc L (.inl x :: st) := by
  intro l p e s m args below meth c D tg ad0 ad B hG H locs ls hP hD hS hL
  exact lv_if_ne B.1 B.2.1 hd ht (fun z => kt z l p e s m args below meth c D tg ad0 ad B hG H locs ls hP hD hS hL) (fun z => kf z l p e s m args below meth c D tg ad0 ad B hG H locs ls hP hD hS hL)
theorem tv_icmp_ne {x y : Int32} {off : Int} {tgt : Nat} (hd : decode M.1 pc = .ok (.if_icmp .ne off, 3)) (ht : (pc : Int) + off = (tgt : Int)) (kt : ¬ x = y → tc_V M K nc ns h tgt L st) (kf : x = y → tc_V M K nc ns h (pc + 3) L st) : tc_V M K nc ns h pc L (.inl y :: .inl x :: st) := by
  intro l p e s m args below meth c D tg ad0 ad B hG H locs ls hP hD hS hL
  exact lv_icmp_ne B.1 B.2.1 hd ht (fun z => kt z l p e s m args below meth c D tg ad0 ad B hG H locs ls hP hD hS hL) (fun z => kf z l p e s m args below meth c D tg ad0 ad B hG H locs ls hP hD hS hL)
theorem tv_if_lt {x : Int32} {off : Int} {tgt : Nat} (hd : decode M.1 pc = .ok (.ifCond .lt off, 3)) (ht : (pc : Int) + off = (tgt : Int)) (kt : x < 0 → tc_V M K nc ns h tgt L st) (kf : ¬ x < 0 → tc_V M K nc ns h (pc + 3) L st) : tc_V M K nc ns h pc L (.inl x :: st) := by
  intro l p e s m args below meth c D tg ad0 ad B hG H locs ls hP hD hS hL
  exact lv_if_lt B.1 B.2.1 hd ht (fun z => kt z l p e s m args below meth c D tg ad0 ad B hG H locs ls hP hD hS hL) (fun z => kf z l p e s m args below meth c D tg ad0 ad B hG H locs ls hP hD hS hL)
theorem tv_icmp_lt {x y : Int32} {off : Int} {tgt : Nat} (hd : decode M.1 pc = .ok (.if_icmp .lt off, 3)) (ht : (pc : Int) + off = (tgt : Int)) (kt : x < y → tc_V M K nc ns h tgt L st) (kf : ¬ x < y → tc_V M K nc ns h (pc + 3) L st) : tc_V M K nc ns h pc L (.inl y :: .inl x :: st) := by
  intro l p e s m args below meth c D tg ad0 ad B hG H locs ls hP hD hS hL
  exact lv_icmp_lt B.1 B.2.1 hd ht (fun z => kt z l p e s m args below meth c D tg ad0 ad B hG H locs ls hP hD hS hL) (fun z => kf z l p e s m args below meth c D tg ad0 ad B hG H locs ls hP hD hS hL)
theorem tv_if_ge {x : Int32} {off : Int} {tgt : Nat} (hd : decode M.1 pc = .ok (.ifCond .ge off, 3)) (ht : (pc : Int) + off = (tgt : Int)) (kt : 0 ≤ x → tc_V M K nc ns h tgt L st) (kf : ¬ 0 ≤ x → tc_V M K nc ns h (pc + 3) L st) : tc_V M K nc ns h pc L (.inl x :: st) := by
  intro l p e s m args below meth c D tg ad0 ad B hG H locs ls hP hD hS hL
  exact lv_if_ge B.1 B.2.1 hd ht (fun z => kt z l p e s m args below meth c D tg ad0 ad B hG H locs ls hP hD hS hL) (fun z => kf z l p e s m args below meth c D tg ad0 ad B hG H locs ls hP hD hS hL)
theorem tv_icmp_ge {x y : Int32} {off : Int} {tgt : Nat} (hd : decode M.1 pc = .ok (.if_icmp .ge off, 3)) (ht : (pc : Int) + off = (tgt : Int)) (kt : y ≤ x → tc_V M K nc ns h tgt L st) (kf : ¬ y ≤ x → tc_V M K nc ns h (pc + 3) L st) : tc_V M K nc ns h pc L (.inl y :: .inl x :: st) := by
  intro l p e s m args below meth c D tg ad0 ad B hG H locs ls hP hD hS hL
  exact lv_icmp_ge B.1 B.2.1 hd ht (fun z => kt z l p e s m args below meth c D tg ad0 ad B hG H locs ls hP hD hS hL) (fun z => kf z l p e s m args below meth c D tg ad0 ad B hG H locs ls hP hD hS hL)
theorem tv_if_gt {x : Int32} {off : Int} {tgt : Nat} (hd : decode M.1 pc = .ok (.ifCond .gt off, 3)) (ht : (pc : Int) + off = (tgt : Int)) (kt : 0 < x → tc_V M K nc ns h tgt L st) (kf : ¬ 0 < x → tc_V M K nc ns h (pc + 3) L st) : tc_V M K nc ns h pc L (.inl x :: st) := by
  intro l p e s m args below meth c D tg ad0 ad B hG H locs ls hP hD hS hL
  exact lv_if_gt B.1 B.2.1 hd ht (fun z => kt z l p e s m args below meth c D tg ad0 ad B hG H locs ls hP hD hS hL) (fun z => kf z l p e s m args below meth c D tg ad0 ad B hG H locs ls hP hD hS hL)
theorem tv_icmp_gt {x y : Int32} {off : Int} {tgt : Nat} (hd : decode M.1 pc = .ok (.if_icmp .gt off, 3)) (ht : (pc : Int) + off = (tgt : Int)) (kt : y < x → tc_V M K nc ns h tgt L st) (kf : ¬ y < x → tc_V M K nc ns h (pc + 3) L st) : tc_V M K nc ns h pc L (.inl y :: .inl x :: st) := by
  intro l p e s m args below meth c D tg ad0 ad B hG H locs ls hP hD hS hL
  exact lv_icmp_gt B.1 B.2.1 hd ht (fun z => kt z l p e s m args below meth c D tg ad0 ad B hG H locs ls hP hD hS hL) (fun z => kf z l p e s m args below meth c D tg ad0 ad B hG H locs ls hP hD hS hL)
theorem tv_if_le {x : Int32} {off : Int} {tgt : Nat} (hd : decode M.1 pc = .ok (.ifCond .le off, 3)) (ht : (pc : Int) + off = (tgt : Int)) (kt : x ≤ 0 → tc_V M K nc ns h tgt L st) (kf : ¬ x ≤ 0 → tc_V M K nc ns h (pc + 3) L st) : tc_V M K nc ns h pc L (.inl x :: st) := by
  intro l p e s m args below meth c D tg ad0 ad B hG H locs ls hP hD hS hL
  exact lv_if_le B.1 B.2.1 hd ht (fun z => kt z l p e s m args below meth c D tg ad0 ad B hG H locs ls hP hD hS hL) (fun z => kf z l p e s m args below meth c D tg ad0 ad B hG H locs ls hP hD hS hL)
theorem tv_icmp_le {x y : Int32} {off : Int} {tgt : Nat} (hd : decode M.1 pc = .ok (.if_icmp .le off, 3)) (ht : (pc : Int) + off = (tgt : Int)) (kt : x ≤ y → tc_V M K nc ns h tgt L st) (kf : ¬ x ≤ y → tc_V M K nc ns h (pc + 3) L st) : tc_V M K nc ns h pc L (.inl y :: .inl x :: st) := by
  intro l p e s m args below meth c D tg ad0 ad B hG H locs ls hP hD hS hL
  exact lv_icmp_le B.1 B.2.1 hd ht (fun z => kt z l p e s m args below meth c D tg ad0 ad B hG H locs ls hP hD hS hL) (fun z => kf z l p e s m args below meth c D tg ad0 ad B hG H locs ls hP hD hS hL)
theorem tv_goto {off : Int} {tgt : Nat} (hd : decode M.1 pc = .ok (.goto off, 3)) (ht : (pc : Int) + off = (tgt : Int)) (k : tc_V M K nc ns h tgt L st) : tc_V M K nc ns h pc L st := by
  intro l p e s m args below meth c D tg ad0 ad B hG H locs ls hP hD hS hL
  exact lv_goto B.1 B.2.1 hd ht (k l p e s m args below meth c D tg ad0 ad B hG H locs ls hP hD hS hL)
theorem tv_tabOut {dflt lo hi : Int} {offs : Array Int} {len : Nat} {x : Int32} {tgt : Nat} (hd : decode M.1 pc = .ok (.tableswitch dflt lo hi offs, len)) (hx : x.toInt < lo ∨ hi < x.toInt) (ht : (pc : Int) + dflt = (tgt : Int)) (k : tc_V M K nc ns h tgt L st) : tc_V M K nc ns h pc L (.inl x :: st) := by
  intro l p e s m args below meth c D tg ad0 ad B hG H locs ls hP hD hS hL
  exact lv_tableOut B.1 B.2.1 hd hx ht (k l p e s m args below meth c D tg ad0 ad B hG H locs ls hP hD hS hL)
theorem tv_tabIn {dflt lo hi : Int} {offs : Array Int} {len : Nat} {x : Int32} {off : Int} {tgt : Nat} (hd : decode M.1 pc = .ok (.tableswitch dflt lo hi offs, len)) (h1 : ¬ x.toInt < lo) (h2 : ¬ hi < x.toInt) (ho : offs[(x.toInt - lo).toNat]? = some off) (ht : (pc : Int) + off = (tgt : Int)) (k : tc_V M K nc ns h tgt L st) : tc_V M K nc ns h pc L (.inl x :: st) := by
  intro l p e s m args below meth c D tg ad0 ad B hG H locs ls hP hD hS hL
  exact lv_tableIn B.1 B.2.1 hd h1 h2 ho ht (k l p e s m args below meth c D tg ad0 ad B hG H locs ls hP hD hS hL)
theorem tv_top {a b : tcV} (e : a = b) (k : tc_V M K nc ns h pc L (b :: st)) : tc_V M K nc ns h pc L (a :: st) := e ▸ k
theorem tv_eq {h' : List tcC} {L' : List (Option tcV)} {st' : List tcV} (k : tc_V M K nc ns h' pc L' st') (e1 : h = h') (e2 : L = L') (e3 : st = st') : tc_V M K nc ns h pc L st := by
  subst e1 e2 e3
  exact k
/-- a field's link: in class own, entry idx is field k of class ci -/
def tc_F (own : String) (idx ci k : Nat) (C : String) (T : u_T) (N : Nat) : Prop := vwCl[ci]? = some (C, T, N) ∧ k < N ∧ (∀ w ∈ u_ws C T N, w ∈ tc_T) ∧ Cond.fieldLink own idx (T k).1 (T k).2.1 (T k).2.2.1 ∈ tc_T
theorem tv_get {idx ci j q N : Nat} {C : String} {T : u_T} {fs : List tcV} {v : tcV} (hF : tc_F M.2.2.1 idx ci j C T N) (hd : decode M.1 pc = .ok (.getfield idx, 3)) (he : h[q]? = some (.inr (ci, fs))) (hv : fs[j]? = some v) (k : tc_V M K nc ns h (pc + 3) L (v :: st)) : tc_V M K nc ns h pc L (.inr (some q) :: st) := by
  intro l p e s m args below meth c D tg ad0 ad B hG H locs ls hP hD hS hL
  obtain ⟨hc, hk, hu, hl⟩ := hF
  exact va_get B.1 B.2.1 B.2.2.2.2.1 hu B.2.2.2.1 B.2.2.2.2.2.1 hP q (tc_w_at he) hc j hk (B.2.2.2.2.1 _ hl) (fun _ z => z) (v := tc_v ad v) (by simp [hv]) hd (k l p e s m args below meth c D tg ad0 ad B hG H locs ls hP hD hS hL)
/-- what the tables say of the fields of a class, for a write -/
def tc_FT (T : u_T) (N : Nat) (ty0 : Nat → FieldType) : Prop := (∀ j, j < N → parseFieldDescriptor (T j).2.2.1 = some (ty0 j)) ∧ (∀ a, a < N → ∀ b, b < N → a ≠ b → (T a).2.1 ≠ (T b).2.1)
theorem tv_put {idx ci j q N : Nat} {C : String} {T : u_T} {ty0 : Nat → FieldType} {fs fs' : List tcV} {x : Int32} {h' : List tcC} (hF : tc_F M.2.2.1 idx ci j C T N) (hT : tc_FT T N ty0) (g3 : (T j).2.2.2 = false) (g4 : parseFieldDescriptor (T j).2.2.1 = some .int) (hd : decode M.1 pc = .ok (.putfield idx, 3)) (he : h[q]? = some (.inr (ci, fs))) (hk : j < fs.length) (hfs : fs.set j (.inl x) = fs') (hh : h.set q (.inr (ci, fs')) = h') (kk : tc_V M K nc ns h' (pc + 3) L st) : tc_V M K nc ns h pc L (.inl x :: .inr (some q) :: st) := by
  intro l p e s m args below meth c D tg ad0 ad B hG H locs ls hP hD hS hL
  obtain ⟨hc, hkN, hu, hl⟩ := hF
  obtain ⟨g1, g2⟩ := hT
  refine va_put B.1 B.2.1 B.2.2.2.2.1 hu ty0 g1 g2 B.2.2.2.1 B.2.2.2.2.2.1 hP hD hS q (tc_w_at he) hc j hkN (B.2.2.2.2.1 _ hl) (fun _ z => z) g3 (ty := .int) (v := .int x) g4 rfl rfl (by simpa using hk) hd (fun H1 locs1 hP1 hD1 hS1 => ?_)
  have ew : (tc_w ad tg h).set q (ad q, .inr (ci, (fs.map (tc_v ad)).set j (.int x))) = tc_w ad tg h' := by
    have e1 : (fs.map (tc_v ad)).set j (.int x) = fs'.map (tc_v ad) := by
      rw [← hfs, List.map_set]
      rfl
    rw [e1, ← hh]
    exact tc_w_set (c := .inr (ci, fs'))
  rw [ew] at hP1 hD1
  exact kk l p e s m args below meth c D tg ad0 ad B ⟨by rw [← hh, List.length_set]; exact hG.1, hG.2⟩ H1 locs1 ls hP1 hD1 hS1 hL
theorem tv_iald {q n : Nat} {f : Nat → Int32} {i : Int32} (hd : decode M.1 pc = .ok (.iaload, 1)) (he : h[q]? = some (.inl (0, n, .inl f))) (hin : vp_in i n) (k : tc_V M K nc ns h (pc + 1) L (.inl (f i.toNatClampNeg) :: st)) : tc_V M K nc ns h pc L (.inl i :: .inr (some q) :: st) := by
  intro l p e s m args below meth c D tg ad0 ad B hG H locs ls hP hD hS hL
  exact va_iald B.1 B.2.1 B.2.2.2.2.2.1 hP q 0 (tc_w_at he) rfl hin hd (k l p e s m args below meth c D tg ad0 ad B hG H locs ls hP hD hS hL)
theorem tv_zald {q n : Nat} {f : Nat → Int32} {i : Int32} (hd : decode M.1 pc = .ok (.baload, 1)) (he : h[q]? = some (.inl (1, n, .inl f))) (hin : vp_in i n) (k : tc_V M K nc ns h (pc + 1) L (.inl (f i.toNatClampNeg) :: st)) : tc_V M K nc ns h pc L (.inl i :: .inr (some q) :: st) := by
  intro l p e s m args below meth c D tg ad0 ad B hG H locs ls hP hD hS hL
  exact va_zald B.1 B.2.1 B.2.2.2.2.2.1 hP q 1 (tc_w_at he) rfl hin hd (k l p e s m args below meth c D tg ad0 ad B hG H locs ls hP hD hS hL)
theorem tv_iast {q n : Nat} {f : Nat → Int32} {i x : Int32} {h' : List tcC} (hd : decode M.1 pc = .ok (.iastore, 1)) (he : h[q]? = some (.inl (0, n, .inl f))) (hin : vp_in i n) (hh : h.set q (.inl (0, n, .inl (upd f i.toNatClampNeg (x)))) = h') (k : tc_V M K nc ns h' (pc + 1) L st) : tc_V M K nc ns h pc L (.inl x :: .inl i :: .inr (some q) :: st) := by
  intro l p e s m args below meth c D tg ad0 ad B hG H locs ls hP hD hS hL
  refine va_iast B.1 B.2.1 B.2.2.2.2.2.1 hP hD hS q 0 (tc_w_at he) rfl hin hd (fun H1 locs1 hP1 hD1 hS1 => ?_)
  have ew : (tc_w ad tg h).set q (ad q, .inl (tg 0, n, .inl (upd f i.toNatClampNeg (x)))) = tc_w ad tg h' := by
    rw [← hh]
    exact tc_w_set (c := .inl (0, n, .inl (upd f i.toNatClampNeg (x))))
  rw [ew] at hP1 hD1
  exact k l p e s m args below meth c D tg ad0 ad B ⟨by rw [← hh, List.length_set]; exact hG.1, hG.2⟩ H1 locs1 ls hP1 hD1 hS1 hL
theorem tv_zast {q n : Nat} {f : Nat → Int32} {i x : Int32} {h' : List tcC} (hd : decode M.1 pc = .ok (.bastore, 1)) (he : h[q]? = some (.inl (1, n, .inl f))) (hin : vp_in i n) (hh : h.set q (.inl (1, n, .inl (upd f i.toNatClampNeg (vp_nar .boolean x)))) = h') (k : tc_V M K nc ns h' (pc + 1) L st) : tc_V M K nc ns h pc L (.inl x :: .inl i :: .inr (some q) :: st) := by
  intro l p e s m args below meth c D tg ad0 ad B hG H locs ls hP hD hS hL
  refine va_zast B.1 B.2.1 B.2.2.2.2.2.1 hP hD hS q 1 (tc_w_at he) rfl hin hd (fun H1 locs1 hP1 hD1 hS1 => ?_)
  have ew : (tc_w ad tg h).set q (ad q, .inl (tg 1, n, .inl (upd f i.toNatClampNeg (vp_nar .boolean x)))) = tc_w ad tg h' := by
    rw [← hh]
    exact tc_w_set (c := .inl (1, n, .inl (upd f i.toNatClampNeg (vp_nar .boolean x))))
  rw [ew] at hP1 hD1
  exact k l p e s m args below meth c D tg ad0 ad B ⟨by rw [← hh, List.length_set]; exact hG.1, hG.2⟩ H1 locs1 ls hP1 hD1 hS1 hL
theorem tv_alen {q n t : Nat} {x : (Nat → Int32) ⊕ (Nat → Option Nat)} {v : Int32} (hd : decode M.1 pc = .ok (.arraylength, 1)) (he : h[q]? = some (.inl (t, n, x))) (ht : t < 2) (hv : nI n = v) (k : tc_V M K nc ns h (pc + 1) L (.inl v :: st)) : tc_V M K nc ns h pc L (.inr (some q) :: st) := by
  intro l p e s m args below meth c D tg ad0 ad B hG H locs ls hP hD hS hL
  have hty : ∃ ty, (tc_ty tg)[t]? = some (tg t, ty) := by
    match t, ht with
    | 0, _ => exact ⟨_, rfl⟩
    | 1, _ => exact ⟨_, rfl⟩
  obtain ⟨ty, hty⟩ := hty
  rcases x with f | f
  · exact va_alen B.1 B.2.1 B.2.2.2.2.2.1 hP q t (tc_w_at he) hty hv hd (k l p e s m args below meth c D tg ad0 ad B hG H locs ls hP hD hS hL)
  · exact va_alen B.1 B.2.1 B.2.2.2.2.2.1 hP q t (tc_w_at he) hty hv hd (k l p e s m args below meth c D tg ad0 ad B hG H locs ls hP hD hS hL)
theorem tv_iret {ty : FieldType} {x : Int32} (hd : decode M.1 pc = .ok (.ireturn, 1)) (hr : M.2.2.2.1 = some ty) (hn : narrow ty (.int x) = .int x) (h1 : K.2.1 = some (.inl x)) (h2 : K.2.2.1 = h) (hc : nc ≤ K.2.2.2.1 ∧ ns ≤ K.2.2.2.2 := by exact ⟨Nat.zero_le _, Nat.zero_le _⟩) : tc_V M K nc ns h pc L [.inl x] := by
  intro l p e s m args below meth c D tg ad0 ad B hG H locs ls hP hD hS hL
  obtain ⟨hx, hb, hml, hown, hts, hK, hN, hrt, hlk, hnm⟩ := B
  refine W.widen (k := K.2.2.2.1) (n := K.2.2.2.2) hc.1 hc.2 ?_
  exact W.zret (ty := ty) hx hb (by rw [hrt, hr]) hn (fun t ht hW => ⟨ad, hG.2, by rw [h1]; rfl, by rw [ht, h2]; exact hP, by rw [h2]; exact hD, hS.F ht⟩) hS.2.2 hd hlk
theorem tv_vret (hd : decode M.1 pc = .ok (.return_, 1)) (hr : M.2.2.2.1 = none) (h1 : K.2.1 = none) (h2 : K.2.2.1 = h) (hc : nc ≤ K.2.2.2.1 ∧ ns ≤ K.2.2.2.2 := by exact ⟨Nat.zero_le _, Nat.zero_le _⟩) : tc_V M K nc ns h pc L [] := by
  intro l p e s m args below meth c D tg ad0 ad B hG H locs ls hP hD hS hL
  obtain ⟨hx, hb, hml, hown, hts, hK, hN, hrt, hlk, hnm⟩ := B
  refine W.widen (k := K.2.2.2.1) (n := K.2.2.2.2) hc.1 hc.2 ?_
  exact W.vret hx hb (by rw [hrt, hr]) (fun t ht hW => ⟨ad, hG.2, by rw [h1]; rfl, by rw [ht, h2]; exact hP, by rw [h2]; exact hD, hS.F ht⟩) hS.2.2 hd hlk
end TV
/-! calls -/
theorem tc_fr {ad0 ad : Nat → Nat} {tg : Nat → ClassId} {h0 h : List tcC} {sz : Nat} {H0 H : Heap} {locs : List Loc} (hsz : H0.size = sz) (hD : va_D (va_A (tc_w ad0 tg h0) sz) (tc_w ad tg h)) (hS : va_S (va_A (tc_w ad0 tg h0) sz) H0 H locs) : ∀ q, va_A (tc_w ad tg h) H.size q → va_A (tc_w ad0 tg h0) sz q := by
  intro q hq
  rcases hq with ⟨k, e, hk⟩ | hq
  · exact hD.2 k _ hk
  · refine Or.inr ?_
    have := hS.1
    omega
theorem tc_go {M : tcM} {K : tcK} {nc ns mc ms : Nat} {h h' : List tcC} {pc : Nat} {L : List (Option tcV)} {rest : List tcV} {r : Option tcV} {l : Launch} {p : Program} {e : Env} {s : State} {m : MethodId} {args : Array Value} {below : List Frame} {meth : Method} {c : Code} {D : va_G} {tg : Nat → ClassId} {ad0 ad : Nat → Nat} {H : Heap} {locs : List Loc} {ls : Array Slot} {st0 : List Value} {a : Array Value}
    (B : tc_B M p s m args meth c D tg) (hG : K.1.length ≤ h.length ∧ ∀ k, k < K.1.length → ad k = ad0 k) (hD : va_D (va_A (tc_w ad0 tg K.1) s.heap.size) (tc_w ad tg h)) (hS : va_S (va_A (tc_w ad0 tg K.1) s.heap.size) s.heap H locs) (hL : tc_L ad ls M.2.1 L) (hlen : h.length ≤ h'.length) (hwf : tc_okL h.length L = true ∧ tc_okS h.length rest = true)
    (hr : va_Run p l e (tc_rm M.2.2.2.2.1 K.2.2.2.1 K.2.2.2.2) s m args below meth c H locs nc ns mc ms (F0 m pc ls st0) (rest.map (tc_v ad)) (tc_Q D tg ad H.size (h, r, h', mc, ms) a) (va_A (tc_w ad tg h) H.size))
    (k : tc_V M K (nc + mc) (ns + ms) h' (pc + 3) L (r.toList ++ rest)) : W p l e (tc_rm M.2.2.2.2.1 K.2.2.2.1 K.2.2.2.2) s m args below meth c H locs nc ns (MQ below (tc_Q D tg ad0 s.heap.size K) args s K.2.2.2.1 K.2.2.2.2 (va_A (tc_w ad0 tg K.1) s.heap.size)) (F0 m pc ls st0) := by
  have hfr := tc_fr rfl hD hS
  intro T hT X
  obtain ⟨v, st₀, t, T', Lc, h0, X', hLc, e1, e2, ⟨ad', hag, hv, hp, hd, hz, hk⟩, stp⟩ := hr T hT X
  cases hv
  rw [h0] at hz hk
  have hS' : va_S (va_A (tc_w ad0 tg K.1) s.heap.size) s.heap T'.heap (locs ++ Lc) := ⟨Nat.le_trans hS.1 (by rw [e1]; exact hz), fun q h1 h2 => by rw [e1, hk q (Nat.lt_of_lt_of_le h1 hS.1) (fun z => h2 (hfr q z))]; exact hS.2.1 q h1 h2, fun q hq => by
      rcases List.mem_append.mp hq with h | h
      · exact hS.2.2 q h
      · exact hfr _ (hLc q h)⟩
  have hst : (r.map (tc_v ad')).toList ++ rest.map (tc_v ad) = (r.toList ++ rest).map (tc_v ad') := by
    rw [← tc_vs_ag hag hwf.2]
    cases r <;> simp
  have kk := k l p e s m args below meth c D tg ad0 ad' B ⟨Nat.le_trans hG.1 hlen, fun k hk => by rw [hag k (Nat.lt_of_lt_of_le hk hG.1)]; exact hG.2 k hk⟩ T'.heap (locs ++ Lc) ls (by rw [e1]; exact hp) (hd.weaken (fun _ q _ z => hfr q.1 z)) hS' (tc_L_ag hag hwf.1 hL)
  obtain ⟨t2, a1, b1⟩ := kk T' rfl X'
  refine ⟨t2, stp t2 ?_, b1⟩
  rw [← hst] at a1
  exact a1
theorem tc_blind {D : va_G} {tg : Nat → ClassId} {ad : Nat → Nat} {sz : Nat} {h : List tcC} {av : List Value} : FrameBlind (va_Pc av (tc_U D tg ad sz h)) := fun a U g mk q => by
  obtain ⟨q0, q1, qP, qK, qD, qN⟩ := q
  exact ⟨q0, q1, qP, va_K.moved (u := U) (U := U.calling g mk a) (Vm.Alike.refl U.vm) qK, qD, tc_N.same (u := U) (U := U.calling g mk a) rfl qN⟩
theorem tc_pre {M : tcM} {p : Program} {s : State} {m : MethodId} {args : Array Value} {meth : Method} {c : Code} {D : va_G} {tg : Nat → ClassId} {ad : Nat → Nat} {h : List tcC} {H : Heap} {A : Nat → Prop} {As : List tcV} (B : tc_B M p s m args meth c D tg) (hP : va_P D vwCl (tc_w ad tg h) H) (hD : va_D A (tc_w ad tg h)) :
    ∀ U : State, U.heap = H → s.WarmedH U.vm → va_Pc (As.map (tc_v ad)) (tc_U D tg ad H.size h) (As.map (tc_v ad)).toArray U := fun U hU hW =>
  ⟨rfl, by rw [hU], by rw [hU]; exact hP, va_K.moved hW.alike B.2.2.2.2.2.1, hD.weaken (fun _ _ _ _ => trivial), B.2.2.2.2.2.2.1.warm hW⟩
theorem tc_room {d d' nL mc ms Mc Ms : Nat} (hd : d' < d) (hn : nL ≤ 13) : (tc_rm d' mc ms).frames + 1 ≤ (tc_rm d Mc Ms).frames ∧ 8 + (nL + 11) + (tc_rm d' mc ms).locals ≤ (tc_rm d Mc Ms).locals := by
  refine ⟨hd, ?_⟩
  show 8 + (nL + 11) + 32 * d' ≤ 32 * d
  omega
theorem tc_catsum (ad : Nat → Nat) : ∀ (vs : List tcV), ((vs.map (tc_v ad)).map fun v => v.category).sum = vs.length
  | [] => rfl
  | v :: vs => by
    have ih := tc_catsum ad vs
    simp only [List.map_cons, List.sum_cons, List.length_cons, tc_cat]
    rw [ih]
    omega
theorem tc_mroom {m : MethodId} {pc : Nat} {ls : Array Slot} {st0 : List Value} {ad : Nat → Nat} {rest : List tcV} (h : rest.length ≤ 8) : 2 * (F0 m pc ls st0).monitorRoom + ((rest.map (tc_v ad)).map fun v => v.category).sum ≤ 8 := lv_room (by rw [tc_catsum]; exact h)
/-- what a call needs of names and tables: the callee -/
def tc_Y (y : MethodName) (cc : ByteArray) (nL : Nat) (ret : Option FieldType) (n : Nat) : Prop := Cond.code y cc nL ret ∈ tc_T ∧ Cond.initialized y.cls ∈ tc_T ∧ (y.cls ≠ "java/lang/invoke/MethodHandle" ∧ y.cls ≠ "java/lang/invoke/VarHandle" ∧ (parseMethodDescriptor y.desc).map (fun d => d.parameters.length) = some n) ∧ nL ≤ 13
theorem tv_callS {M : tcM} {K : tcK} {nc ns mc ms : Nat} {h h' : List tcC} {pc : Nat} {L : List (Option tcV)} {st rest : List tcV} {y : MethodName} {cc : ByteArray} {nL idx n d' : Nat} {ret : Option FieldType} {r : Option tcV}  (As : List tcV) (hM : tc_M y cc nL ret d' As (h, r, h', mc, ms)) (hY : tc_Y y cc nL ret n) (hl : Cond.methodLink M.2.2.1 idx y ∈ tc_T) (hs : Cond.static y ∈ tc_T) (hdd : d' < M.2.2.2.2.1) (hn : As.length = n) (hst : st = As.reverse ++ rest) (hrest : rest.length ≤ 8) (hwf : tc_okL h.length L = true ∧ tc_okS h.length rest = true) (hd : decode M.1 pc = .ok (.invokestatic idx, 3)) (hcs : nc + mc ≤ K.2.2.2.1 ∧ ns + ms ≤ K.2.2.2.2) (k : tc_V M K (nc + mc) (ns + ms) h' (pc + 3) L (r.toList ++ rest)) : tc_V M K nc ns h pc L st := by
  intro l p e s m args below meth c D tg ad0 ad B hG H locs ls hP hD hS hL
  obtain ⟨y1, y2, y3, y4⟩ := hY
  obtain ⟨hx, hb, hml, hown, hts, hK, hN, hrt, hlk, hnm⟩ := id B
  subst hst
  refine tc_go B hG hD hS hL hM.1 hwf (va_runS (As := As.map (tc_v ad)) (n := n) ⟨hx, hb, hml, hown, hts⟩ (hM.2 l D tg ad H.size) ⟨callB_of n hts (tc_goodIn y1) rfl rfl rfl (hts _ y2) (hts _ hl) y3 (tc_room hdd y4), hts _ hs⟩ ⟨tc_blind, tc_pre B hP hD⟩ rfl (by simpa using hn) hL.1 ?_ (tc_mroom hrest) hd hcs) k
  show ((As.reverse ++ rest).map (tc_v ad)) = _
  rw [List.map_append, List.map_reverse]
theorem tv_callV {M : tcM} {K : tcK} {nc ns mc ms : Nat} {h h' : List tcC} {pc : Nat} {L : List (Option tcV)} {st rest : List tcV} {y : MethodName} {cc : ByteArray} {nL idx n d' : Nat} {ret : Option FieldType} {r : Option tcV} {q ci N : Nat} {T : u_T} {fs : List tcV} (As : List tcV) (hM : tc_M y cc nL ret d' (.inr (some q) :: As) (h, r, h', mc, ms)) (hY : tc_Y y cc nL ret n) (hl : Cond.methodLink M.2.2.1 idx y ∈ tc_T) (hi : Cond.instanceMethod y ∈ tc_T) (hsel : Cond.selects y.cls y y ∈ tc_T) (he : h[q]? = some (.inr (ci, fs))) (hc : vwCl[ci]? = some (y.cls, T, N)) (hdd : d' < M.2.2.2.2.1) (hn : As.length = n) (hst : st = As.reverse ++ .inr (some q) :: rest) (hrest : rest.length ≤ 8) (hwf : tc_okL h.length L = true ∧ tc_okS h.length rest = true) (hd : decode M.1 pc = .ok (.invokevirtual idx, 3)) (hcs : nc + mc ≤ K.2.2.2.1 ∧ ns + ms ≤ K.2.2.2.2) (k : tc_V M K (nc + mc) (ns + ms) h' (pc + 3) L (r.toList ++ rest)) : tc_V M K nc ns h pc L st := by
  intro l p e s m args below meth c D tg ad0 ad B hG H locs ls hP hD hS hL
  obtain ⟨y1, y2, y3, y4⟩ := hY
  obtain ⟨hx, hb, hml, hown, hts, hK, hN, hrt, hlk, hnm⟩ := id B
  subst hst
  refine tc_go B hG hD hS hL hM.1 hwf (va_runV (b := ad q) (C := y.cls) (As := As.map (tc_v ad)) (n := n) ⟨hx, hb, hml, hown, hts⟩ (hM.2 l D tg ad H.size) ⟨callB_of n hts (tc_goodIn y1) rfl rfl rfl (hts _ y2) (hts _ hl) y3 (tc_room hdd y4), hts _ hi, hts _ hsel⟩ ⟨tc_blind, va_recv hK hP hc (tc_w_at he), tc_pre (As := .inr (some q) :: As) B hP hD⟩ rfl (by simpa using hn) hL.1 ?_ (tc_mroom hrest) hd hcs) k
  show ((As.reverse ++ .inr (some q) :: rest).map (tc_v ad)) = _
  rw [List.map_append, List.map_reverse]
  rfl
theorem tv_callN {M : tcM} {K : tcK} {nc ns mc ms : Nat} {h h' : List tcC} {pc : Nat} {L : List (Option tcV)} {st rest : List tcV} {y : MethodName} {cc : ByteArray} {nL idx n d' : Nat} {ret : Option FieldType} {r : Option tcV} {q ci N : Nat} {T : u_T} {fs : List tcV} {host : String} (As : List tcV) (hM : tc_M y cc nL ret d' (.inr (some q) :: As) (h, r, h', mc, ms)) (hY : tc_Y y cc nL ret n) (hl : (M.2.2.1, idx, y, host) ∈ tc_nest) (hi : Cond.instanceMethod y ∈ tc_T) (hsel : Cond.selects y.cls y y ∈ tc_T) (he : h[q]? = some (.inr (ci, fs))) (hc : vwCl[ci]? = some (y.cls, T, N)) (hdd : d' < M.2.2.2.2.1) (hn : As.length = n) (hst : st = As.reverse ++ .inr (some q) :: rest) (hrest : rest.length ≤ 8) (hwf : tc_okL h.length L = true ∧ tc_okS h.length rest = true) (hd : decode M.1 pc = .ok (.invokevirtual idx, 3)) (hcs : nc + mc ≤ K.2.2.2.1 ∧ ns + ms ≤ K.2.2.2.2) (k : tc_V M K (nc + mc) (ns + ms) h' (pc + 3) L (r.toList ++ rest)) : tc_V M K nc ns h pc L st := by
  intro l p e s m args below meth c D tg ad0 ad B hG H locs ls hP hD hS hL
  obtain ⟨y1, y2, y3, y4⟩ := hY
  obtain ⟨hx, hb, hml, hown, hts, hK, hN, hrt, hlk, hnm⟩ := id B
  subst hst
  refine tc_go B hG hD hS hL hM.1 hwf (va_runVN (b := ad q) (C := y.cls) (As := As.map (tc_v ad)) (n := n) ⟨hx, hb, hml, hown, hts⟩ (hM.2 l D tg ad H.size) ⟨va_cnB n hts (tc_goodIn y1) rfl rfl rfl (hN _ hl) (hts _ y2) y3 (tc_room hdd y4), hts _ hi, hts _ hsel⟩ ⟨tc_blind, va_recv hK hP hc (tc_w_at he), tc_pre (As := .inr (some q) :: As) B hP hD⟩ rfl (by simpa using hn) hL.1 ?_ (tc_mroom hrest) hd hcs) k
  show ((As.reverse ++ .inr (some q) :: rest).map (tc_v ad)) = _
  rw [List.map_append, List.map_reverse]
  rfl
section TW
variable {M : tcM} {K : tcK} {nc ns : Nat} {h : List tcC} {pc : Nat} {L : List (Option tcV)} {st : List tcV}
theorem tv_istN_0 {x : Int32} {a0 : Option tcV} (hd : decode M.1 pc = .ok (.istore_n 0, 1)) (hn : 0 < M.2.1) (k : tc_V M K nc ns h (pc + 1) (some (.inl x) :: L) st) : tc_V M K nc ns h pc (a0 :: L) (.inl x :: st) := tv_istore_n hd rfl hn rfl k
theorem tv_ist_0 {x : Int32} {a0 : Option tcV} (hd : decode M.1 pc = .ok (.istore 0, 2)) (hn : 0 < M.2.1) (k : tc_V M K nc ns h (pc + 2) (some (.inl x) :: L) st) : tc_V M K nc ns h pc (a0 :: L) (.inl x :: st) := tv_istore hd hn rfl k
theorem tv_astN_0 {x : Nat} {a0 : Option tcV} (hd : decode M.1 pc = .ok (.astore_n 0, 1)) (hn : 0 < M.2.1) (k : tc_V M K nc ns h (pc + 1) (some (.inr (some x)) :: L) st) : tc_V M K nc ns h pc (a0 :: L) (.inr (some x) :: st) := tv_astore_n hd rfl hn rfl k
theorem tv_ast_0 {x : Nat} {a0 : Option tcV} (hd : decode M.1 pc = .ok (.astore 0, 2)) (hn : 0 < M.2.1) (k : tc_V M K nc ns h (pc + 2) (some (.inr (some x)) :: L) st) : tc_V M K nc ns h pc (a0 :: L) (.inr (some x) :: st) := tv_astore hd hn rfl k
theorem tv_iinc_0 {n : Int} {x v : Int32}  (hd : decode M.1 pc = .ok (.iinc 0 n, 3)) (hn : 0 < M.2.1) (hv : x + Int32.ofInt n = v) (k : tc_V M K nc ns h (pc + 3) (some (.inl v) :: L) st) : tc_V M K nc ns h pc (some (.inl x) :: L) st := tv_iinc hd rfl hv hn rfl k
theorem tv_istN_1 {x : Int32} {a0 a1 : Option tcV} (hd : decode M.1 pc = .ok (.istore_n 1, 1)) (hn : 1 < M.2.1) (k : tc_V M K nc ns h (pc + 1) (a0 :: some (.inl x) :: L) st) : tc_V M K nc ns h pc (a0 :: a1 :: L) (.inl x :: st) := tv_istore_n hd rfl hn rfl k
theorem tv_ist_1 {x : Int32} {a0 a1 : Option tcV} (hd : decode M.1 pc = .ok (.istore 1, 2)) (hn : 1 < M.2.1) (k : tc_V M K nc ns h (pc + 2) (a0 :: some (.inl x) :: L) st) : tc_V M K nc ns h pc (a0 :: a1 :: L) (.inl x :: st) := tv_istore hd hn rfl k
theorem tv_astN_1 {x : Nat} {a0 a1 : Option tcV} (hd : decode M.1 pc = .ok (.astore_n 1, 1)) (hn : 1 < M.2.1) (k : tc_V M K nc ns h (pc + 1) (a0 :: some (.inr (some x)) :: L) st) : tc_V M K nc ns h pc (a0 :: a1 :: L) (.inr (some x) :: st) := tv_astore_n hd rfl hn rfl k
theorem tv_ast_1 {x : Nat} {a0 a1 : Option tcV} (hd : decode M.1 pc = .ok (.astore 1, 2)) (hn : 1 < M.2.1) (k : tc_V M K nc ns h (pc + 2) (a0 :: some (.inr (some x)) :: L) st) : tc_V M K nc ns h pc (a0 :: a1 :: L) (.inr (some x) :: st) := tv_astore hd hn rfl k
theorem tv_iinc_1 {n : Int} {x v : Int32} {a0 : Option tcV} (hd : decode M.1 pc = .ok (.iinc 1 n, 3)) (hn : 1 < M.2.1) (hv : x + Int32.ofInt n = v) (k : tc_V M K nc ns h (pc + 3) (a0 :: some (.inl v) :: L) st) : tc_V M K nc ns h pc (a0 :: some (.inl x) :: L) st := tv_iinc hd rfl hv hn rfl k
theorem tv_istN_2 {x : Int32} {a0 a1 a2 : Option tcV} (hd : decode M.1 pc = .ok (.istore_n 2, 1)) (hn : 2 < M.2.1) (k : tc_V M K nc ns h (pc + 1) (a0 :: a1 :: some (.inl x) :: L) st) : tc_V M K nc ns h pc (a0 :: a1 :: a2 :: L) (.inl x :: st) := tv_istore_n hd rfl hn rfl k
theorem tv_ist_2 {x : Int32} {a0 a1 a2 : Option tcV} (hd : decode M.1 pc = .ok (.istore 2, 2)) (hn : 2 < M.2.1) (k : tc_V M K nc ns h (pc + 2) (a0 :: a1 :: some (.inl x) :: L) st) : tc_V M K nc ns h pc (a0 :: a1 :: a2 :: L) (.inl x :: st) := tv_istore hd hn rfl k
theorem tv_astN_2 {x : Nat} {a0 a1 a2 : Option tcV} (hd : decode M.1 pc = .ok (.astore_n 2, 1)) (hn : 2 < M.2.1) (k : tc_V M K nc ns h (pc + 1) (a0 :: a1 :: some (.inr (some x)) :: L) st) : tc_V M K nc ns h pc (a0 :: a1 :: a2 :: L) (.inr (some x) :: st) := tv_astore_n hd rfl hn rfl k
theorem tv_ast_2 {x : Nat} {a0 a1 a2 : Option tcV} (hd : decode M.1 pc = .ok (.astore 2, 2)) (hn : 2 < M.2.1) (k : tc_V M K nc ns h (pc + 2) (a0 :: a1 :: some (.inr (some x)) :: L) st) : tc_V M K nc ns h pc (a0 :: a1 :: a2 :: L) (.inr (some x) :: st) := tv_astore hd hn rfl k
theorem tv_iinc_2 {n : Int} {x v : Int32} {a0 a1 : Option tcV} (hd : decode M.1 pc = .ok (.iinc 2 n, 3)) (hn : 2 < M.2.1) (hv : x + Int32.ofInt n = v) (k : tc_V M K nc ns h (pc + 3) (a0 :: a1 :: some (.inl v) :: L) st) : tc_V M K nc ns h pc (a0 :: a1 :: some (.inl x) :: L) st := tv_iinc hd rfl hv hn rfl k
theorem tv_istN_3 {x : Int32} {a0 a1 a2 a3 : Option tcV} (hd : decode M.1 pc = .ok (.istore_n 3, 1)) (hn : 3 < M.2.1) (k : tc_V M K nc ns h (pc + 1) (a0 :: a1 :: a2 :: some (.inl x) :: L) st) : tc_V M K nc ns h pc (a0 :: a1 :: a2 :: a3 :: L) (.inl x :: st) := tv_istore_n hd rfl hn rfl k
theorem tv_ist_3 {x : Int32} {a0 a1 a2 a3 : Option tcV} (hd : decode M.1 pc = .ok (.istore 3, 2)) (hn : 3 < M.2.1) (k : tc_V M K nc ns h (pc + 2) (a0 :: a1 :: a2 :: some (.inl x) :: L) st) : tc_V M K nc ns h pc (a0 :: a1 :: a2 :: a3 :: L) (.inl x :: st) := tv_istore hd hn rfl k
theorem tv_astN_3 {x : Nat} {a0 a1 a2 a3 : Option tcV} (hd : decode M.1 pc = .ok (.astore_n 3, 1)) (hn : 3 < M.2.1) (k : tc_V M K nc ns h (pc + 1) (a0 :: a1 :: a2 :: some (.inr (some x)) :: L) st) : tc_V M K nc ns h pc (a0 :: a1 :: a2 :: a3 :: L) (.inr (some x) :: st) := tv_astore_n hd rfl hn rfl k
theorem tv_ast_3 {x : Nat} {a0 a1 a2 a3 : Option tcV} (hd : decode M.1 pc = .ok (.astore 3, 2)) (hn : 3 < M.2.1) (k : tc_V M K nc ns h (pc + 2) (a0 :: a1 :: a2 :: some (.inr (some x)) :: L) st) : tc_V M K nc ns h pc (a0 :: a1 :: a2 :: a3 :: L) (.inr (some x) :: st) := tv_astore hd hn rfl k
theorem tv_iinc_3 {n : Int} {x v : Int32} {a0 a1 a2 : Option tcV} (hd : decode M.1 pc = .ok (.iinc 3 n, 3)) (hn : 3 < M.2.1) (hv : x + Int32.ofInt n = v) (k : tc_V M K nc ns h (pc + 3) (a0 :: a1 :: a2 :: some (.inl v) :: L) st) : tc_V M K nc ns h pc (a0 :: a1 :: a2 :: some (.inl x) :: L) st := tv_iinc hd rfl hv hn rfl k
theorem tv_ist_4 {x : Int32} {a0 a1 a2 a3 a4 : Option tcV} (hd : decode M.1 pc = .ok (.istore 4, 2)) (hn : 4 < M.2.1) (k : tc_V M K nc ns h (pc + 2) (a0 :: a1 :: a2 :: a3 :: some (.inl x) :: L) st) : tc_V M K nc ns h pc (a0 :: a1 :: a2 :: a3 :: a4 :: L) (.inl x :: st) := tv_istore hd hn rfl k
theorem tv_ast_4 {x : Nat} {a0 a1 a2 a3 a4 : Option tcV} (hd : decode M.1 pc = .ok (.astore 4, 2)) (hn : 4 < M.2.1) (k : tc_V M K nc ns h (pc + 2) (a0 :: a1 :: a2 :: a3 :: some (.inr (some x)) :: L) st) : tc_V M K nc ns h pc (a0 :: a1 :: a2 :: a3 :: a4 :: L) (.inr (some x) :: st) := tv_astore hd hn rfl k
theorem tv_iinc_4 {n : Int} {x v : Int32} {a0 a1 a2 a3 : Option tcV} (hd : decode M.1 pc = .ok (.iinc 4 n, 3)) (hn : 4 < M.2.1) (hv : x + Int32.ofInt n = v) (k : tc_V M K nc ns h (pc + 3) (a0 :: a1 :: a2 :: a3 :: some (.inl v) :: L) st) : tc_V M K nc ns h pc (a0 :: a1 :: a2 :: a3 :: some (.inl x) :: L) st := tv_iinc hd rfl hv hn rfl k
theorem tv_ist_5 {x : Int32} {a0 a1 a2 a3 a4 a5 : Option tcV} (hd : decode M.1 pc = .ok (.istore 5, 2)) (hn : 5 < M.2.1) (k : tc_V M K nc ns h (pc + 2) (a0 :: a1 :: a2 :: a3 :: a4 :: some (.inl x) :: L) st) : tc_V M K nc ns h pc (a0 :: a1 :: a2 :: a3 :: a4 :: a5 :: L) (.inl x :: st) := tv_istore hd hn rfl k
theorem tv_ast_5 {x : Nat} {a0 a1 a2 a3 a4 a5 : Option tcV} (hd : decode M.1 pc = .ok (.astore 5, 2)) (hn : 5 < M.2.1) (k : tc_V M K nc ns h (pc + 2) (a0 :: a1 :: a2 :: a3 :: a4 :: some (.inr (some x)) :: L) st) : tc_V M K nc ns h pc (a0 :: a1 :: a2 :: a3 :: a4 :: a5 :: L) (.inr (some x) :: st) := tv_astore hd hn rfl k
theorem tv_iinc_5 {n : Int} {x v : Int32} {a0 a1 a2 a3 a4 : Option tcV} (hd : decode M.1 pc = .ok (.iinc 5 n, 3)) (hn : 5 < M.2.1) (hv : x + Int32.ofInt n = v) (k : tc_V M K nc ns h (pc + 3) (a0 :: a1 :: a2 :: a3 :: a4 :: some (.inl v) :: L) st) : tc_V M K nc ns h pc (a0 :: a1 :: a2 :: a3 :: a4 :: some (.inl x) :: L) st := tv_iinc hd rfl hv hn rfl k
theorem tv_ist_6 {x : Int32} {a0 a1 a2 a3 a4 a5 a6 : Option tcV} (hd : decode M.1 pc = .ok (.istore 6, 2)) (hn : 6 < M.2.1) (k : tc_V M K nc ns h (pc + 2) (a0 :: a1 :: a2 :: a3 :: a4 :: a5 :: some (.inl x) :: L) st) : tc_V M K nc ns h pc (a0 :: a1 :: a2 :: a3 :: a4 :: a5 :: a6 :: L) (.inl x :: st) := tv_istore hd hn rfl k
theorem tv_ast_6 {x : Nat} {a0 a1 a2 a3 a4 a5 a6 : Option tcV} (hd : decode M.1 pc = .ok (.astore 6, 2)) (hn : 6 < M.2.1) (k : tc_V M K nc ns h (pc + 2) (a0 :: a1 :: a2 :: a3 :: a4 :: a5 :: some (.inr (some x)) :: L) st) : tc_V M K nc ns h pc (a0 :: a1 :: a2 :: a3 :: a4 :: a5 :: a6 :: L) (.inr (some x) :: st) := tv_astore hd hn rfl k
theorem tv_iinc_6 {n : Int} {x v : Int32} {a0 a1 a2 a3 a4 a5 : Option tcV} (hd : decode M.1 pc = .ok (.iinc 6 n, 3)) (hn : 6 < M.2.1) (hv : x + Int32.ofInt n = v) (k : tc_V M K nc ns h (pc + 3) (a0 :: a1 :: a2 :: a3 :: a4 :: a5 :: some (.inl v) :: L) st) : tc_V M K nc ns h pc (a0 :: a1 :: a2 :: a3 :: a4 :: a5 :: some (.inl x) :: L) st := tv_iinc hd rfl hv hn rfl k
theorem tv_ist_7 {x : Int32} {a0 a1 a2 a3 a4 a5 a6 a7 : Option tcV} (hd : decode M.1 pc = .ok (.istore 7, 2)) (hn : 7 < M.2.1) (k : tc_V M K nc ns h (pc + 2) (a0 :: a1 :: a2 :: a3 :: a4 :: a5 :: a6 :: some (.inl x) :: L) st) : tc_V M K nc ns h pc (a0 :: a1 :: a2 :: a3 :: a4 :: a5 :: a6 :: a7 :: L) (.inl x :: st) := tv_istore hd hn rfl k
theorem tv_ast_7 {x : Nat} {a0 a1 a2 a3 a4 a5 a6 a7 : Option tcV} (hd : decode M.1 pc = .ok (.astore 7, 2)) (hn : 7 < M.2.1) (k : tc_V M K nc ns h (pc + 2) (a0 :: a1 :: a2 :: a3 :: a4 :: a5 :: a6 :: some (.inr (some x)) :: L) st) : tc_V M K nc ns h pc (a0 :: a1 :: a2 :: a3 :: a4 :: a5 :: a6 :: a7 :: L) (.inr (some x) :: st) := tv_astore hd hn rfl k
theorem tv_iinc_7 {n : Int} {x v : Int32} {a0 a1 a2 a3 a4 a5 a6 : Option tcV} (hd : decode M.1 pc = .ok (.iinc 7 n, 3)) (hn : 7 < M.2.1) (hv : x + Int32.ofInt n = v) (k : tc_V M K nc ns h (pc + 3) (a0 :: a1 :: a2 :: a3 :: a4 :: a5 :: a6 :: some (.inl v) :: L) st) : tc_V M K nc ns h pc (a0 :: a1 :: a2 :: a3 :: a4 :: a5 :: a6 :: some (.inl x) :: L) st := tv_iinc hd rfl hv hn rfl k
theorem tv_ist_8 {x : Int32} {a0 a1 a2 a3 a4 a5 a6 a7 a8 : Option tcV} (hd : decode M.1 pc = .ok (.istore 8, 2)) (hn : 8 < M.2.1) (k : tc_V M K nc ns h (pc + 2) (a0 :: a1 :: a2 :: a3 :: a4 :: a5 :: a6 :: a7 :: some (.inl x) :: L) st) : tc_V M K nc ns h pc (a0 :: a1 :: a2 :: a3 :: a4 :: a5 :: a6 :: a7 :: a8 :: L) (.inl x :: st) := tv_istore hd hn rfl k
theorem tv_ast_8 {x : Nat} {a0 a1 a2 a3 a4 a5 a6 a7 a8 : Option tcV} (hd : decode M.1 pc = .ok (.astore 8, 2)) (hn : 8 < M.2.1) (k : tc_V M K nc ns h (pc + 2) (a0 :: a1 :: a2 :: a3 :: a4 :: a5 :: a6 :: a7 :: some (.inr (some x)) :: L) st) : tc_V M K nc ns h pc (a0 :: a1 :: a2 :: a3 :: a4 :: a5 :: a6 :: a7 :: a8 :: L) (.inr (some x) :: st) := tv_astore hd hn rfl k
theorem tv_iinc_8 {n : Int} {x v : Int32} {a0 a1 a2 a3 a4 a5 a6 a7 : Option tcV} (hd : decode M.1 pc = .ok (.iinc 8 n, 3)) (hn : 8 < M.2.1) (hv : x + Int32.ofInt n = v) (k : tc_V M K nc ns h (pc + 3) (a0 :: a1 :: a2 :: a3 :: a4 :: a5 :: a6 :: a7 :: some (.inl v) :: L) st) : tc_V M K nc ns h pc (a0 :: a1 :: a2 :: a3 :: a4 :: a5 :: a6 :: a7 :: some (.inl x) :: L) st := tv_iinc hd rfl hv hn rfl k
theorem tv_ist_9 {x : Int32} {a0 a1 a2 a3 a4 a5 a6 a7 a8 a9 : Option tcV} (hd : decode M.1 pc = .ok (.istore 9, 2)) (hn : 9 < M.2.1) (k : tc_V M K nc ns h (pc + 2) (a0 :: a1 :: a2 :: a3 :: a4 :: a5 :: a6 :: a7 :: a8 :: some (.inl x) :: L) st) : tc_V M K nc ns h pc (a0 :: a1 :: a2 :: a3 :: a4 :: a5 :: a6 :: a7 :: a8 :: a9 :: L) (.inl x :: st) := tv_istore hd hn rfl k
theorem tv_ast_9 {x : Nat} {a0 a1 a2 a3 a4 a5 a6 a7 a8 a9 : Option tcV} (hd : decode M.1 pc = .ok (.astore 9, 2)) (hn : 9 < M.2.1) (k : tc_V M K nc ns h (pc + 2) (a0 :: a1 :: a2 :: a3 :: a4 :: a5 :: a6 :: a7 :: a8 :: some (.inr (some x)) :: L) st) : tc_V M K nc ns h pc (a0 :: a1 :: a2 :: a3 :: a4 :: a5 :: a6 :: a7 :: a8 :: a9 :: L) (.inr (some x) :: st) := tv_astore hd hn rfl k
theorem tv_iinc_9 {n : Int} {x v : Int32} {a0 a1 a2 a3 a4 a5 a6 a7 a8 : Option tcV} (hd : decode M.1 pc = .ok (.iinc 9 n, 3)) (hn : 9 < M.2.1) (hv : x + Int32.ofInt n = v) (k : tc_V M K nc ns h (pc + 3) (a0 :: a1 :: a2 :: a3 :: a4 :: a5 :: a6 :: a7 :: a8 :: some (.inl v) :: L) st) : tc_V M K nc ns h pc (a0 :: a1 :: a2 :: a3 :: a4 :: a5 :: a6 :: a7 :: a8 :: some (.inl x) :: L) st := tv_iinc hd rfl hv hn rfl k
theorem tv_ist_10 {x : Int32} {a0 a1 a2 a3 a4 a5 a6 a7 a8 a9 a10 : Option tcV} (hd : decode M.1 pc = .ok (.istore 10, 2)) (hn : 10 < M.2.1) (k : tc_V M K nc ns h (pc + 2) (a0 :: a1 :: a2 :: a3 :: a4 :: a5 :: a6 :: a7 :: a8 :: a9 :: some (.inl x) :: L) st) : tc_V M K nc ns h pc (a0 :: a1 :: a2 :: a3 :: a4 :: a5 :: a6 :: a7 :: a8 :: a9 :: a10 :: L) (.inl x :: st) := tv_istore hd hn rfl k
theorem tv_ast_10 {x : Nat} {a0 a1 a2 a3 a4 a5 a6 a7 a8 a9 a10 : Option tcV} (hd : decode M.1 pc = .ok (.astore 10, 2)) (hn : 10 < M.2.1) (k : tc_V M K nc ns h (pc + 2) (a0 :: a1 :: a2 :: a3 :: a4 :: a5 :: a6 :: a7 :: a8 :: a9 :: some (.inr (some x)) :: L) st) : tc_V M K nc ns h pc (a0 :: a1 :: a2 :: a3 :: a4 :: a5 :: a6 :: a7 :: a8 :: a9 :: a10 :: L) (.inr (some x) :: st) := tv_astore hd hn rfl k
theorem tv_iinc_10 {n : Int} {x v : Int32} {a0 a1 a2 a3 a4 a5 a6 a7 a8 a9 : Option tcV} (hd : decode M.1 pc = .ok (.iinc 10 n, 3)) (hn : 10 < M.2.1) (hv : x + Int32.ofInt n = v) (k : tc_V M K nc ns h (pc + 3) (a0 :: a1 :: a2 :: a3 :: a4 :: a5 :: a6 :: a7 :: a8 :: a9 :: some (.inl v) :: L) st) : tc_V M K nc ns h pc (a0 :: a1 :: a2 :: a3 :: a4 :: a5 :: a6 :: a7 :: a8 :: a9 :: some (.inl x) :: L) st := tv_iinc hd rfl hv hn rfl k
theorem tv_ist_11 {x : Int32} {a0 a1 a2 a3 a4 a5 a6 a7 a8 a9 a10 a11 : Option tcV} (hd : decode M.1 pc = .ok (.istore 11, 2)) (hn : 11 < M.2.1) (k : tc_V M K nc ns h (pc + 2) (a0 :: a1 :: a2 :: a3 :: a4 :: a5 :: a6 :: a7 :: a8 :: a9 :: a10 :: some (.inl x) :: L) st) : tc_V M K nc ns h pc (a0 :: a1 :: a2 :: a3 :: a4 :: a5 :: a6 :: a7 :: a8 :: a9 :: a10 :: a11 :: L) (.inl x :: st) := tv_istore hd hn rfl k
theorem tv_ast_11 {x : Nat} {a0 a1 a2 a3 a4 a5 a6 a7 a8 a9 a10 a11 : Option tcV} (hd : decode M.1 pc = .ok (.astore 11, 2)) (hn : 11 < M.2.1) (k : tc_V M K nc ns h (pc + 2) (a0 :: a1 :: a2 :: a3 :: a4 :: a5 :: a6 :: a7 :: a8 :: a9 :: a10 :: some (.inr (some x)) :: L) st) : tc_V M K nc ns h pc (a0 :: a1 :: a2 :: a3 :: a4 :: a5 :: a6 :: a7 :: a8 :: a9 :: a10 :: a11 :: L) (.inr (some x) :: st) := tv_astore hd hn rfl k
theorem tv_iinc_11 {n : Int} {x v : Int32} {a0 a1 a2 a3 a4 a5 a6 a7 a8 a9 a10 : Option tcV} (hd : decode M.1 pc = .ok (.iinc 11 n, 3)) (hn : 11 < M.2.1) (hv : x + Int32.ofInt n = v) (k : tc_V M K nc ns h (pc + 3) (a0 :: a1 :: a2 :: a3 :: a4 :: a5 :: a6 :: a7 :: a8 :: a9 :: a10 :: some (.inl v) :: L) st) : tc_V M K nc ns h pc (a0 :: a1 :: a2 :: a3 :: a4 :: a5 :: a6 :: a7 :: a8 :: a9 :: a10 :: some (.inl x) :: L) st := tv_iinc hd rfl hv hn rfl k
theorem tv_ist_12 {x : Int32} {a0 a1 a2 a3 a4 a5 a6 a7 a8 a9 a10 a11 a12 : Option tcV} (hd : decode M.1 pc = .ok (.istore 12, 2)) (hn : 12 < M.2.1) (k : tc_V M K nc ns h (pc + 2) (a0 :: a1 :: a2 :: a3 :: a4 :: a5 :: a6 :: a7 :: a8 :: a9 :: a10 :: a11 :: some (.inl x) :: L) st) : tc_V M K nc ns h pc (a0 :: a1 :: a2 :: a3 :: a4 :: a5 :: a6 :: a7 :: a8 :: a9 :: a10 :: a11 :: a12 :: L) (.inl x :: st) := tv_istore hd hn rfl k
theorem tv_ast_12 {x : Nat} {a0 a1 a2 a3 a4 a5 a6 a7 a8 a9 a10 a11 a12 : Option tcV} (hd : decode M.1 pc = .ok (.astore 12, 2)) (hn : 12 < M.2.1) (k : tc_V M K nc ns h (pc + 2) (a0 :: a1 :: a2 :: a3 :: a4 :: a5 :: a6 :: a7 :: a8 :: a9 :: a10 :: a11 :: some (.inr (some x)) :: L) st) : tc_V M K nc ns h pc (a0 :: a1 :: a2 :: a3 :: a4 :: a5 :: a6 :: a7 :: a8 :: a9 :: a10 :: a11 :: a12 :: L) (.inr (some x) :: st) := tv_astore hd hn rfl k
theorem tv_iinc_12 {n : Int} {x v : Int32} {a0 a1 a2 a3 a4 a5 a6 a7 a8 a9 a10 a11 : Option tcV} (hd : decode M.1 pc = .ok (.iinc 12 n, 3)) (hn : 12 < M.2.1) (hv : x + Int32.ofInt n = v) (k : tc_V M K nc ns h (pc + 3) (a0 :: a1 :: a2 :: a3 :: a4 :: a5 :: a6 :: a7 :: a8 :: a9 :: a10 :: a11 :: some (.inl v) :: L) st) : tc_V M K nc ns h pc (a0 :: a1 :: a2 :: a3 :: a4 :: a5 :: a6 :: a7 :: a8 :: a9 :: a10 :: a11 :: some (.inl x) :: L) st := tv_iinc hd rfl hv hn rfl k
theorem tv_fg {k : Nat} {L' : List (Option tcV)} (hl : L.set k none = L') (kk : tc_V M K nc ns h pc L' st) : tc_V M K nc ns h pc L st := by
  intro l p e s m args below meth c D tg ad0 ad B hG H locs ls hP hD hS hL
  refine kk l p e s m args below meth c D tg ad0 ad B hG H locs ls hP hD hS ⟨hL.1, hL.2.1, fun i v hi => hL.2.2 i v ?_⟩
  subst hl
  by_cases hik : k = i
  · subst hik
    by_cases hlt : k < L.length
    · rw [List.getElem?_set_self hlt] at hi
      cases hi
    · rw [List.getElem?_eq_none (by simpa using Nat.not_lt.mp hlt)] at hi
      cases hi
  · rw [List.getElem?_set_ne hik] at hi
    exact hi
theorem tv_fg_0 {a0 : Option tcV} (kk : tc_V M K nc ns h pc (none :: L) st) : tc_V M K nc ns h pc (a0 :: L) st := tv_fg (k := 0) rfl kk
theorem tv_fg_1 {a0 a1 : Option tcV} (kk : tc_V M K nc ns h pc (a0 :: none :: L) st) : tc_V M K nc ns h pc (a0 :: a1 :: L) st := tv_fg (k := 1) rfl kk
theorem tv_fg_2 {a0 a1 a2 : Option tcV} (kk : tc_V M K nc ns h pc (a0 :: a1 :: none :: L) st) : tc_V M K nc ns h pc (a0 :: a1 :: a2 :: L) st := tv_fg (k := 2) rfl kk
theorem tv_fg_3 {a0 a1 a2 a3 : Option tcV} (kk : tc_V M K nc ns h pc (a0 :: a1 :: a2 :: none :: L) st) : tc_V M K nc ns h pc (a0 :: a1 :: a2 :: a3 :: L) st := tv_fg (k := 3) rfl kk
theorem tv_fg_4 {a0 a1 a2 a3 a4 : Option tcV} (kk : tc_V M K nc ns h pc (a0 :: a1 :: a2 :: a3 :: none :: L) st) : tc_V M K nc ns h pc (a0 :: a1 :: a2 :: a3 :: a4 :: L) st := tv_fg (k := 4) rfl kk
theorem tv_fg_5 {a0 a1 a2 a3 a4 a5 : Option tcV} (kk : tc_V M K nc ns h pc (a0 :: a1 :: a2 :: a3 :: a4 :: none :: L) st) : tc_V M K nc ns h pc (a0 :: a1 :: a2 :: a3 :: a4 :: a5 :: L) st := tv_fg (k := 5) rfl kk
theorem tv_fg_6 {a0 a1 a2 a3 a4 a5 a6 : Option tcV} (kk : tc_V M K nc ns h pc (a0 :: a1 :: a2 :: a3 :: a4 :: a5 :: none :: L) st) : tc_V M K nc ns h pc (a0 :: a1 :: a2 :: a3 :: a4 :: a5 :: a6 :: L) st := tv_fg (k := 6) rfl kk
theorem tv_fg_7 {a0 a1 a2 a3 a4 a5 a6 a7 : Option tcV} (kk : tc_V M K nc ns h pc (a0 :: a1 :: a2 :: a3 :: a4 :: a5 :: a6 :: none :: L) st) : tc_V M K nc ns h pc (a0 :: a1 :: a2 :: a3 :: a4 :: a5 :: a6 :: a7 :: L) st := tv_fg (k := 7) rfl kk
theorem tv_fg_8 {a0 a1 a2 a3 a4 a5 a6 a7 a8 : Option tcV} (kk : tc_V M K nc ns h pc (a0 :: a1 :: a2 :: a3 :: a4 :: a5 :: a6 :: a7 :: none :: L) st) : tc_V M K nc ns h pc (a0 :: a1 :: a2 :: a3 :: a4 :: a5 :: a6 :: a7 :: a8 :: L) st := tv_fg (k := 8) rfl kk
theorem tv_fg_9 {a0 a1 a2 a3 a4 a5 a6 a7 a8 a9 : Option tcV} (kk : tc_V M K nc ns h pc (a0 :: a1 :: a2 :: a3 :: a4 :: a5 :: a6 :: a7 :: a8 :: none :: L) st) : tc_V M K nc ns h pc (a0 :: a1 :: a2 :: a3 :: a4 :: a5 :: a6 :: a7 :: a8 :: a9 :: L) st := tv_fg (k := 9) rfl kk
theorem tv_fg_10 {a0 a1 a2 a3 a4 a5 a6 a7 a8 a9 a10 : Option tcV} (kk : tc_V M K nc ns h pc (a0 :: a1 :: a2 :: a3 :: a4 :: a5 :: a6 :: a7 :: a8 :: a9 :: none :: L) st) : tc_V M K nc ns h pc (a0 :: a1 :: a2 :: a3 :: a4 :: a5 :: a6 :: a7 :: a8 :: a9 :: a10 :: L) st := tv_fg (k := 10) rfl kk
theorem tv_fg_11 {a0 a1 a2 a3 a4 a5 a6 a7 a8 a9 a10 a11 : Option tcV} (kk : tc_V M K nc ns h pc (a0 :: a1 :: a2 :: a3 :: a4 :: a5 :: a6 :: a7 :: a8 :: a9 :: a10 :: none :: L) st) : tc_V M K nc ns h pc (a0 :: a1 :: a2 :: a3 :: a4 :: a5 :: a6 :: a7 :: a8 :: a9 :: a10 :: a11 :: L) st := tv_fg (k := 11) rfl kk
theorem tv_fg_12 {a0 a1 a2 a3 a4 a5 a6 a7 a8 a9 a10 a11 a12 : Option tcV} (kk : tc_V M K nc ns h pc (a0 :: a1 :: a2 :: a3 :: a4 :: a5 :: a6 :: a7 :: a8 :: a9 :: a10 :: a11 :: none :: L) st) : tc_V M K nc ns h pc (a0 :: a1 :: a2 :: a3 :: a4 :: a5 :: a6 :: a7 :: a8 :: a9 :: a10 :: a11 :: a12 :: L) st := tv_fg (k := 12) rfl kk
theorem tv_ialdN {q n t : Nat} {f : Nat → Int32} (hd : decode M.1 pc = .ok (.iaload, 1)) (he : h[q]? = some (.inl (0, n, .inl f))) (hN : n < 2 ^ 31) (ht : t < n) (k : tc_V M K nc ns h (pc + 1) L (.inl (f t) :: st)) : tc_V M K nc ns h pc L (.inl (nI t) :: .inr (some q) :: st) := tv_iald hd he (vp_in_nI ht hN) (by rw [nI_clamp (by omega)]; exact k)
theorem tv_zaldN {q n t : Nat} {f : Nat → Int32} (hd : decode M.1 pc = .ok (.baload, 1)) (he : h[q]? = some (.inl (1, n, .inl f))) (hN : n < 2 ^ 31) (ht : t < n) (k : tc_V M K nc ns h (pc + 1) L (.inl (f t) :: st)) : tc_V M K nc ns h pc L (.inl (nI t) :: .inr (some q) :: st) := tv_zald hd he (vp_in_nI ht hN) (by rw [nI_clamp (by omega)]; exact k)
theorem tv_iastN {q n t : Nat} {f : Nat → Int32} {x : Int32} {h' : List tcC} (hd : decode M.1 pc = .ok (.iastore, 1)) (he : h[q]? = some (.inl (0, n, .inl f))) (hN : n < 2 ^ 31) (ht : t < n) (hh : h.set q (.inl (0, n, .inl (upd f t x))) = h') (k : tc_V M K nc ns h' (pc + 1) L st) : tc_V M K nc ns h pc L (.inl x :: .inl (nI t) :: .inr (some q) :: st) := tv_iast hd he (vp_in_nI ht hN) (by rw [nI_clamp (by omega)]; exact hh) k
theorem tv_zastN {q n t : Nat} {f : Nat → Int32} {x : Int32} {h' : List tcC} (hd : decode M.1 pc = .ok (.bastore, 1)) (he : h[q]? = some (.inl (1, n, .inl f))) (hN : n < 2 ^ 31) (ht : t < n) (hx : vp_nar .boolean x = x) (hh : h.set q (.inl (1, n, .inl (upd f t x))) = h') (k : tc_V M K nc ns h' (pc + 1) L st) : tc_V M K nc ns h pc L (.inl x :: .inl (nI t) :: .inr (some q) :: st) := tv_zast hd he (vp_in_nI ht hN) (by rw [nI_clamp (by omega), hx]; exact hh) k
/-- all that a call by entry idx of class own needs of the tables -/
def tc_KS (own : String) (idx : Nat) (y : MethodName) (cc : ByteArray) (nL : Nat) (ret : Option FieldType) (n : Nat) : Prop := tc_Y y cc nL ret n ∧ Cond.methodLink own idx y ∈ tc_T ∧ Cond.static y ∈ tc_T
def tc_KV (own : String) (idx : Nat) (y : MethodName) (cc : ByteArray) (nL : Nat) (ret : Option FieldType) (n ci : Nat) (T : u_T) (N : Nat) : Prop := tc_Y y cc nL ret n ∧ Cond.methodLink own idx y ∈ tc_T ∧ Cond.instanceMethod y ∈ tc_T ∧ Cond.selects y.cls y y ∈ tc_T ∧ vwCl[ci]? = some (y.cls, T, N)
def tc_KN (own : String) (idx : Nat) (y : MethodName) (cc : ByteArray) (nL : Nat) (ret : Option FieldType) (n ci : Nat) (T : u_T) (N : Nat) (host : String) : Prop := tc_Y y cc nL ret n ∧ (own, idx, y, host) ∈ tc_nest ∧ Cond.instanceMethod y ∈ tc_T ∧ Cond.selects y.cls y y ∈ tc_T ∧ vwCl[ci]? = some (y.cls, T, N)
theorem tv_callS0r {h' : List tcC} {rest : List tcV} {y : MethodName} {cc : ByteArray} {nL idx d' : Nat} {ret : Option FieldType}  {v : tcV} (hK : tc_KS M.2.2.1 idx y cc nL ret 0) (hdd : d' < M.2.2.2.2.1) (hrest : rest.length ≤ 8) (hw : tc_okL h.length L = true ∧ tc_okS h.length rest = true) (hM : tc_M y cc nL ret d' [] (h, some v, h', 0, 0)) (hcs : nc ≤ K.2.2.2.1 ∧ ns ≤ K.2.2.2.2) (hd : decode M.1 pc = .ok (.invokestatic idx, 3)) (k : tc_V M K nc ns h' (pc + 3) L (v :: rest)) : tc_V M K nc ns h pc L (rest) := tv_callS [] hM hK.1 hK.2.1 hK.2.2 hdd rfl rfl hrest hw hd hcs k
theorem tv_callV0r {h' : List tcC} {rest : List tcV} {y : MethodName} {cc : ByteArray} {nL idx d' : Nat} {ret : Option FieldType}  {v : tcV} {q ci N : Nat} {T : u_T} {fs : List tcV} (hK : tc_KV M.2.2.1 idx y cc nL ret 0 ci T N) (hdd : d' < M.2.2.2.2.1) (hrest : rest.length ≤ 8) (hw : tc_okL h.length L = true ∧ tc_okS h.length rest = true) (he : h[q]? = some (.inr (ci, fs))) (hM : tc_M y cc nL ret d' (.inr (some q) :: []) (h, some v, h', 0, 0)) (hcs : nc ≤ K.2.2.2.1 ∧ ns ≤ K.2.2.2.2) (hd : decode M.1 pc = .ok (.invokevirtual idx, 3)) (k : tc_V M K nc ns h' (pc + 3) L (v :: rest)) : tc_V M K nc ns h pc L (.inr (some q) :: rest) := tv_callV [] hM hK.1 hK.2.1 hK.2.2.1 hK.2.2.2.1 he hK.2.2.2.2 hdd rfl rfl hrest hw hd hcs k
theorem tv_callN0r {h' : List tcC} {rest : List tcV} {y : MethodName} {cc : ByteArray} {nL idx d' : Nat} {ret : Option FieldType}  {v : tcV} {q ci N : Nat} {T : u_T} {fs : List tcV} {host : String} (hK : tc_KN M.2.2.1 idx y cc nL ret 0 ci T N host) (hdd : d' < M.2.2.2.2.1) (hrest : rest.length ≤ 8) (hw : tc_okL h.length L = true ∧ tc_okS h.length rest = true) (he : h[q]? = some (.inr (ci, fs))) (hM : tc_M y cc nL ret d' (.inr (some q) :: []) (h, some v, h', 0, 0)) (hcs : nc ≤ K.2.2.2.1 ∧ ns ≤ K.2.2.2.2) (hd : decode M.1 pc = .ok (.invokevirtual idx, 3)) (k : tc_V M K nc ns h' (pc + 3) L (v :: rest)) : tc_V M K nc ns h pc L (.inr (some q) :: rest) := tv_callN [] hM hK.1 hK.2.1 hK.2.2.1 hK.2.2.2.1 he hK.2.2.2.2 hdd rfl rfl hrest hw hd hcs k
theorem tv_callS0v {h' : List tcC} {rest : List tcV} {y : MethodName} {cc : ByteArray} {nL idx d' : Nat} {ret : Option FieldType}   (hK : tc_KS M.2.2.1 idx y cc nL ret 0) (hdd : d' < M.2.2.2.2.1) (hrest : rest.length ≤ 8) (hw : tc_okL h.length L = true ∧ tc_okS h.length rest = true) (hM : tc_M y cc nL ret d' [] (h, none, h', 0, 0)) (hcs : nc ≤ K.2.2.2.1 ∧ ns ≤ K.2.2.2.2) (hd : decode M.1 pc = .ok (.invokestatic idx, 3)) (k : tc_V M K nc ns h' (pc + 3) L (rest)) : tc_V M K nc ns h pc L (rest) := tv_callS [] hM hK.1 hK.2.1 hK.2.2 hdd rfl rfl hrest hw hd hcs k
theorem tv_callV0v {h' : List tcC} {rest : List tcV} {y : MethodName} {cc : ByteArray} {nL idx d' : Nat} {ret : Option FieldType}   {q ci N : Nat} {T : u_T} {fs : List tcV} (hK : tc_KV M.2.2.1 idx y cc nL ret 0 ci T N) (hdd : d' < M.2.2.2.2.1) (hrest : rest.length ≤ 8) (hw : tc_okL h.length L = true ∧ tc_okS h.length rest = true) (he : h[q]? = some (.inr (ci, fs))) (hM : tc_M y cc nL ret d' (.inr (some q) :: []) (h, none, h', 0, 0)) (hcs : nc ≤ K.2.2.2.1 ∧ ns ≤ K.2.2.2.2) (hd : decode M.1 pc = .ok (.invokevirtual idx, 3)) (k : tc_V M K nc ns h' (pc + 3) L (rest)) : tc_V M K nc ns h pc L (.inr (some q) :: rest) := tv_callV [] hM hK.1 hK.2.1 hK.2.2.1 hK.2.2.2.1 he hK.2.2.2.2 hdd rfl rfl hrest hw hd hcs k
theorem tv_callN0v {h' : List tcC} {rest : List tcV} {y : MethodName} {cc : ByteArray} {nL idx d' : Nat} {ret : Option FieldType}   {q ci N : Nat} {T : u_T} {fs : List tcV} {host : String} (hK : tc_KN M.2.2.1 idx y cc nL ret 0 ci T N host) (hdd : d' < M.2.2.2.2.1) (hrest : rest.length ≤ 8) (hw : tc_okL h.length L = true ∧ tc_okS h.length rest = true) (he : h[q]? = some (.inr (ci, fs))) (hM : tc_M y cc nL ret d' (.inr (some q) :: []) (h, none, h', 0, 0)) (hcs : nc ≤ K.2.2.2.1 ∧ ns ≤ K.2.2.2.2) (hd : decode M.1 pc = .ok (.invokevirtual idx, 3)) (k : tc_V M K nc ns h' (pc + 3) L (rest)) : tc_V M K nc ns h pc L (.inr (some q) :: rest) := tv_callN [] hM hK.1 hK.2.1 hK.2.2.1 hK.2.2.2.1 he hK.2.2.2.2 hdd rfl rfl hrest hw hd hcs k
theorem tv_callS1r {h' : List tcC} {rest : List tcV} {y : MethodName} {cc : ByteArray} {nL idx d' : Nat} {ret : Option FieldType} {b0 : tcV} {v : tcV} (hK : tc_KS M.2.2.1 idx y cc nL ret 1) (hdd : d' < M.2.2.2.2.1) (hrest : rest.length ≤ 8) (hw : tc_okL h.length L = true ∧ tc_okS h.length rest = true) (hM : tc_M y cc nL ret d' [b0] (h, some v, h', 0, 0)) (hcs : nc ≤ K.2.2.2.1 ∧ ns ≤ K.2.2.2.2) (hd : decode M.1 pc = .ok (.invokestatic idx, 3)) (k : tc_V M K nc ns h' (pc + 3) L (v :: rest)) : tc_V M K nc ns h pc L (b0 :: rest) := tv_callS [b0] hM hK.1 hK.2.1 hK.2.2 hdd rfl rfl hrest hw hd hcs k
theorem tv_callV1r {h' : List tcC} {rest : List tcV} {y : MethodName} {cc : ByteArray} {nL idx d' : Nat} {ret : Option FieldType} {b0 : tcV} {v : tcV} {q ci N : Nat} {T : u_T} {fs : List tcV} (hK : tc_KV M.2.2.1 idx y cc nL ret 1 ci T N) (hdd : d' < M.2.2.2.2.1) (hrest : rest.length ≤ 8) (hw : tc_okL h.length L = true ∧ tc_okS h.length rest = true) (he : h[q]? = some (.inr (ci, fs))) (hM : tc_M y cc nL ret d' (.inr (some q) :: [b0]) (h, some v, h', 0, 0)) (hcs : nc ≤ K.2.2.2.1 ∧ ns ≤ K.2.2.2.2) (hd : decode M.1 pc = .ok (.invokevirtual idx, 3)) (k : tc_V M K nc ns h' (pc + 3) L (v :: rest)) : tc_V M K nc ns h pc L (b0 :: .inr (some q) :: rest) := tv_callV [b0] hM hK.1 hK.2.1 hK.2.2.1 hK.2.2.2.1 he hK.2.2.2.2 hdd rfl rfl hrest hw hd hcs k
theorem tv_callN1r {h' : List tcC} {rest : List tcV} {y : MethodName} {cc : ByteArray} {nL idx d' : Nat} {ret : Option FieldType} {b0 : tcV} {v : tcV} {q ci N : Nat} {T : u_T} {fs : List tcV} {host : String} (hK : tc_KN M.2.2.1 idx y cc nL ret 1 ci T N host) (hdd : d' < M.2.2.2.2.1) (hrest : rest.length ≤ 8) (hw : tc_okL h.length L = true ∧ tc_okS h.length rest = true) (he : h[q]? = some (.inr (ci, fs))) (hM : tc_M y cc nL ret d' (.inr (some q) :: [b0]) (h, some v, h', 0, 0)) (hcs : nc ≤ K.2.2.2.1 ∧ ns ≤ K.2.2.2.2) (hd : decode M.1 pc = .ok (.invokevirtual idx, 3)) (k : tc_V M K nc ns h' (pc + 3) L (v :: rest)) : tc_V M K nc ns h pc L (b0 :: .inr (some q) :: rest) := tv_callN [b0] hM hK.1 hK.2.1 hK.2.2.1 hK.2.2.2.1 he hK.2.2.2.2 hdd rfl rfl hrest hw hd hcs k
theorem tv_callS1v {h' : List tcC} {rest : List tcV} {y : MethodName} {cc : ByteArray} {nL idx d' : Nat} {ret : Option FieldType} {b0 : tcV}  (hK : tc_KS M.2.2.1 idx y cc nL ret 1) (hdd : d' < M.2.2.2.2.1) (hrest : rest.length ≤ 8) (hw : tc_okL h.length L = true ∧ tc_okS h.length rest = true) (hM : tc_M y cc nL ret d' [b0] (h, none, h', 0, 0)) (hcs : nc ≤ K.2.2.2.1 ∧ ns ≤ K.2.2.2.2) (hd : decode M.1 pc = .ok (.invokestatic idx, 3)) (k : tc_V M K nc ns h' (pc + 3) L (rest)) : tc_V M K nc ns h pc L (b0 :: rest) := tv_callS [b0] hM hK.1 hK.2.1 hK.2.2 hdd rfl rfl hrest hw hd hcs k
theorem tv_callV1v {h' : List tcC} {rest : List tcV} {y : MethodName} {cc : ByteArray} {nL idx d' : Nat} {ret : Option FieldType} {b0 : tcV}  {q ci N : Nat} {T : u_T} {fs : List tcV} (hK : tc_KV M.2.2.1 idx y cc nL ret 1 ci T N) (hdd : d' < M.2.2.2.2.1) (hrest : rest.length ≤ 8) (hw : tc_okL h.length L = true ∧ tc_okS h.length rest = true) (he : h[q]? = some (.inr (ci, fs))) (hM : tc_M y cc nL ret d' (.inr (some q) :: [b0]) (h, none, h', 0, 0)) (hcs : nc ≤ K.2.2.2.1 ∧ ns ≤ K.2.2.2.2) (hd : decode M.1 pc = .ok (.invokevirtual idx, 3)) (k : tc_V M K nc ns h' (pc + 3) L (rest)) : tc_V M K nc ns h pc L (b0 :: .inr (some q) :: rest) := tv_callV [b0] hM hK.1 hK.2.1 hK.2.2.1 hK.2.2.2.1 he hK.2.2.2.2 hdd rfl rfl hrest hw hd hcs k
theorem tv_callN1v {h' : List tcC} {rest : List tcV} {y : MethodName} {cc : ByteArray} {nL idx d' : Nat} {ret : Option FieldType} {b0 : tcV}  {q ci N : Nat} {T : u_T} {fs : List tcV} {host : String} (hK : tc_KN M.2.2.1 idx y cc nL ret 1 ci T N host) (hdd : d' < M.2.2.2.2.1) (hrest : rest.length ≤ 8) (hw : tc_okL h.length L = true ∧ tc_okS h.length rest = true) (he : h[q]? = some (.inr (ci, fs))) (hM : tc_M y cc nL ret d' (.inr (some q) :: [b0]) (h, none, h', 0, 0)) (hcs : nc ≤ K.2.2.2.1 ∧ ns ≤ K.2.2.2.2) (hd : decode M.1 pc = .ok (.invokevirtual idx, 3)) (k : tc_V M K nc ns h' (pc + 3) L (rest)) : tc_V M K nc ns h pc L (b0 :: .inr (some q) :: rest) := tv_callN [b0] hM hK.1 hK.2.1 hK.2.2.1 hK.2.2.2.1 he hK.2.2.2.2 hdd rfl rfl hrest hw hd hcs k
theorem tv_callS2r {h' : List tcC} {rest : List tcV} {y : MethodName} {cc : ByteArray} {nL idx d' : Nat} {ret : Option FieldType} {b0 b1 : tcV} {v : tcV} (hK : tc_KS M.2.2.1 idx y cc nL ret 2) (hdd : d' < M.2.2.2.2.1) (hrest : rest.length ≤ 8) (hw : tc_okL h.length L = true ∧ tc_okS h.length rest = true) (hM : tc_M y cc nL ret d' [b0, b1] (h, some v, h', 0, 0)) (hcs : nc ≤ K.2.2.2.1 ∧ ns ≤ K.2.2.2.2) (hd : decode M.1 pc = .ok (.invokestatic idx, 3)) (k : tc_V M K nc ns h' (pc + 3) L (v :: rest)) : tc_V M K nc ns h pc L (b1 :: b0 :: rest) := tv_callS [b0, b1] hM hK.1 hK.2.1 hK.2.2 hdd rfl rfl hrest hw hd hcs k
theorem tv_callV2r {h' : List tcC} {rest : List tcV} {y : MethodName} {cc : ByteArray} {nL idx d' : Nat} {ret : Option FieldType} {b0 b1 : tcV} {v : tcV} {q ci N : Nat} {T : u_T} {fs : List tcV} (hK : tc_KV M.2.2.1 idx y cc nL ret 2 ci T N) (hdd : d' < M.2.2.2.2.1) (hrest : rest.length ≤ 8) (hw : tc_okL h.length L = true ∧ tc_okS h.length rest = true) (he : h[q]? = some (.inr (ci, fs))) (hM : tc_M y cc nL ret d' (.inr (some q) :: [b0, b1]) (h, some v, h', 0, 0)) (hcs : nc ≤ K.2.2.2.1 ∧ ns ≤ K.2.2.2.2) (hd : decode M.1 pc = .ok (.invokevirtual idx, 3)) (k : tc_V M K nc ns h' (pc + 3) L (v :: rest)) : tc_V M K nc ns h pc L (b1 :: b0 :: .inr (some q) :: rest) := tv_callV [b0, b1] hM hK.1 hK.2.1 hK.2.2.1 hK.2.2.2.1 he hK.2.2.2.2 hdd rfl rfl hrest hw hd hcs k
theorem tv_callN2r {h' : List tcC} {rest : List tcV} {y : MethodName} {cc : ByteArray} {nL idx d' : Nat} {ret : Option FieldType} {b0 b1 : tcV} {v : tcV} {q ci N : Nat} {T : u_T} {fs : List tcV} {host : String} (hK : tc_KN M.2.2.1 idx y cc nL ret 2 ci T N host) (hdd : d' < M.2.2.2.2.1) (hrest : rest.length ≤ 8) (hw : tc_okL h.length L = true ∧ tc_okS h.length rest = true) (he : h[q]? = some (.inr (ci, fs))) (hM : tc_M y cc nL ret d' (.inr (some q) :: [b0, b1]) (h, some v, h', 0, 0)) (hcs : nc ≤ K.2.2.2.1 ∧ ns ≤ K.2.2.2.2) (hd : decode M.1 pc = .ok (.invokevirtual idx, 3)) (k : tc_V M K nc ns h' (pc + 3) L (v :: rest)) : tc_V M K nc ns h pc L (b1 :: b0 :: .inr (some q) :: rest) := tv_callN [b0, b1] hM hK.1 hK.2.1 hK.2.2.1 hK.2.2.2.1 he hK.2.2.2.2 hdd rfl rfl hrest hw hd hcs k
theorem tv_callS2v {h' : List tcC} {rest : List tcV} {y : MethodName} {cc : ByteArray} {nL idx d' : Nat} {ret : Option FieldType} {b0 b1 : tcV}  (hK : tc_KS M.2.2.1 idx y cc nL ret 2) (hdd : d' < M.2.2.2.2.1) (hrest : rest.length ≤ 8) (hw : tc_okL h.length L = true ∧ tc_okS h.length rest = true) (hM : tc_M y cc nL ret d' [b0, b1] (h, none, h', 0, 0)) (hcs : nc ≤ K.2.2.2.1 ∧ ns ≤ K.2.2.2.2) (hd : decode M.1 pc = .ok (.invokestatic idx, 3)) (k : tc_V M K nc ns h' (pc + 3) L (rest)) : tc_V M K nc ns h pc L (b1 :: b0 :: rest) := tv_callS [b0, b1] hM hK.1 hK.2.1 hK.2.2 hdd rfl rfl hrest hw hd hcs k
theorem tv_callV2v {h' : List tcC} {rest : List tcV} {y : MethodName} {cc : ByteArray} {nL idx d' : Nat} {ret : Option FieldType} {b0 b1 : tcV}  {q ci N : Nat} {T : u_T} {fs : List tcV} (hK : tc_KV M.2.2.1 idx y cc nL ret 2 ci T N) (hdd : d' < M.2.2.2.2.1) (hrest : rest.length ≤ 8) (hw : tc_okL h.length L = true ∧ tc_okS h.length rest = true) (he : h[q]? = some (.inr (ci, fs))) (hM : tc_M y cc nL ret d' (.inr (some q) :: [b0, b1]) (h, none, h', 0, 0)) (hcs : nc ≤ K.2.2.2.1 ∧ ns ≤ K.2.2.2.2) (hd : decode M.1 pc = .ok (.invokevirtual idx, 3)) (k : tc_V M K nc ns h' (pc + 3) L (rest)) : tc_V M K nc ns h pc L (b1 :: b0 :: .inr (some q) :: rest) := tv_callV [b0, b1] hM hK.1 hK.2.1 hK.2.2.1 hK.2.2.2.1 he hK.2.2.2.2 hdd rfl rfl hrest hw hd hcs k
theorem tv_callN2v {h' : List tcC} {rest : List tcV} {y : MethodName} {cc : ByteArray} {nL idx d' : Nat} {ret : Option FieldType} {b0 b1 : tcV}  {q ci N : Nat} {T : u_T} {fs : List tcV} {host : String} (hK : tc_KN M.2.2.1 idx y cc nL ret 2 ci T N host) (hdd : d' < M.2.2.2.2.1) (hrest : rest.length ≤ 8) (hw : tc_okL h.length L = true ∧ tc_okS h.length rest = true) (he : h[q]? = some (.inr (ci, fs))) (hM : tc_M y cc nL ret d' (.inr (some q) :: [b0, b1]) (h, none, h', 0, 0)) (hcs : nc ≤ K.2.2.2.1 ∧ ns ≤ K.2.2.2.2) (hd : decode M.1 pc = .ok (.invokevirtual idx, 3)) (k : tc_V M K nc ns h' (pc + 3) L (rest)) : tc_V M K nc ns h pc L (b1 :: b0 :: .inr (some q) :: rest) := tv_callN [b0, b1] hM hK.1 hK.2.1 hK.2.2.1 hK.2.2.2.1 he hK.2.2.2.2 hdd rfl rfl hrest hw hd hcs k
theorem tv_callS3r {h' : List tcC} {rest : List tcV} {y : MethodName} {cc : ByteArray} {nL idx d' : Nat} {ret : Option FieldType} {b0 b1 b2 : tcV} {v : tcV} (hK : tc_KS M.2.2.1 idx y cc nL ret 3) (hdd : d' < M.2.2.2.2.1) (hrest : rest.length ≤ 8) (hw : tc_okL h.length L = true ∧ tc_okS h.length rest = true) (hM : tc_M y cc nL ret d' [b0, b1, b2] (h, some v, h', 0, 0)) (hcs : nc ≤ K.2.2.2.1 ∧ ns ≤ K.2.2.2.2) (hd : decode M.1 pc = .ok (.invokestatic idx, 3)) (k : tc_V M K nc ns h' (pc + 3) L (v :: rest)) : tc_V M K nc ns h pc L (b2 :: b1 :: b0 :: rest) := tv_callS [b0, b1, b2] hM hK.1 hK.2.1 hK.2.2 hdd rfl rfl hrest hw hd hcs k
theorem tv_callV3r {h' : List tcC} {rest : List tcV} {y : MethodName} {cc : ByteArray} {nL idx d' : Nat} {ret : Option FieldType} {b0 b1 b2 : tcV} {v : tcV} {q ci N : Nat} {T : u_T} {fs : List tcV} (hK : tc_KV M.2.2.1 idx y cc nL ret 3 ci T N) (hdd : d' < M.2.2.2.2.1) (hrest : rest.length ≤ 8) (hw : tc_okL h.length L = true ∧ tc_okS h.length rest = true) (he : h[q]? = some (.inr (ci, fs))) (hM : tc_M y cc nL ret d' (.inr (some q) :: [b0, b1, b2]) (h, some v, h', 0, 0)) (hcs : nc ≤ K.2.2.2.1 ∧ ns ≤ K.2.2.2.2) (hd : decode M.1 pc = .ok (.invokevirtual idx, 3)) (k : tc_V M K nc ns h' (pc + 3) L (v :: rest)) : tc_V M K nc ns h pc L (b2 :: b1 :: b0 :: .inr (some q) :: rest) := tv_callV [b0, b1, b2] hM hK.1 hK.2.1 hK.2.2.1 hK.2.2.2.1 he hK.2.2.2.2 hdd rfl rfl hrest hw hd hcs k
theorem tv_callN3r {h' : List tcC} {rest : List tcV} {y : MethodName} {cc : ByteArray} {nL idx d' : Nat} {ret : Option FieldType} {b0 b1 b2 : tcV} {v : tcV} {q ci N : Nat} {T : u_T} {fs : List tcV} {host : String} (hK : tc_KN M.2.2.1 idx y cc nL ret 3 ci T N host) (hdd : d' < M.2.2.2.2.1) (hrest : rest.length ≤ 8) (hw : tc_okL h.length L = true ∧ tc_okS h.length rest = true) (he : h[q]? = some (.inr (ci, fs))) (hM : tc_M y cc nL ret d' (.inr (some q) :: [b0, b1, b2]) (h, some v, h', 0, 0)) (hcs : nc ≤ K.2.2.2.1 ∧ ns ≤ K.2.2.2.2) (hd : decode M.1 pc = .ok (.invokevirtual idx, 3)) (k : tc_V M K nc ns h' (pc + 3) L (v :: rest)) : tc_V M K nc ns h pc L (b2 :: b1 :: b0 :: .inr (some q) :: rest) := tv_callN [b0, b1, b2] hM hK.1 hK.2.1 hK.2.2.1 hK.2.2.2.1 he hK.2.2.2.2 hdd rfl rfl hrest hw hd hcs k
theorem tv_callS3v {h' : List tcC} {rest : List tcV} {y : MethodName} {cc : ByteArray} {nL idx d' : Nat} {ret : Option FieldType} {b0 b1 b2 : tcV}  (hK : tc_KS M.2.2.1 idx y cc nL ret 3) (hdd : d' < M.2.2.2.2.1) (hrest : rest.length ≤ 8) (hw : tc_okL h.length L = true ∧ tc_okS h.length rest = true) (hM : tc_M y cc nL ret d' [b0, b1, b2] (h, none, h', 0, 0)) (hcs : nc ≤ K.2.2.2.1 ∧ ns ≤ K.2.2.2.2) (hd : decode M.1 pc = .ok (.invokestatic idx, 3)) (k : tc_V M K nc ns h' (pc + 3) L (rest)) : tc_V M K nc ns h pc L (b2 :: b1 :: b0 :: rest) := tv_callS [b0, b1, b2] hM hK.1 hK.2.1 hK.2.2 hdd rfl rfl hrest hw hd hcs k
theorem tv_callV3v {h' : List tcC} {rest : List tcV} {y : MethodName} {cc : ByteArray} {nL idx d' : Nat} {ret : Option FieldType} {b0 b1 b2 : tcV}  {q ci N : Nat} {T : u_T} {fs : List tcV} (hK : tc_KV M.2.2.1 idx y cc nL ret 3 ci T N) (hdd : d' < M.2.2.2.2.1) (hrest : rest.length ≤ 8) (hw : tc_okL h.length L = true ∧ tc_okS h.length rest = true) (he : h[q]? = some (.inr (ci, fs))) (hM : tc_M y cc nL ret d' (.inr (some q) :: [b0, b1, b2]) (h, none, h', 0, 0)) (hcs : nc ≤ K.2.2.2.1 ∧ ns ≤ K.2.2.2.2) (hd : decode M.1 pc = .ok (.invokevirtual idx, 3)) (k : tc_V M K nc ns h' (pc + 3) L (rest)) : tc_V M K nc ns h pc L (b2 :: b1 :: b0 :: .inr (some q) :: rest) := tv_callV [b0, b1, b2] hM hK.1 hK.2.1 hK.2.2.1 hK.2.2.2.1 he hK.2.2.2.2 hdd rfl rfl hrest hw hd hcs k
theorem tv_callN3v {h' : List tcC} {rest : List tcV} {y : MethodName} {cc : ByteArray} {nL idx d' : Nat} {ret : Option FieldType} {b0 b1 b2 : tcV}  {q ci N : Nat} {T : u_T} {fs : List tcV} {host : String} (hK : tc_KN M.2.2.1 idx y cc nL ret 3 ci T N host) (hdd : d' < M.2.2.2.2.1) (hrest : rest.length ≤ 8) (hw : tc_okL h.length L = true ∧ tc_okS h.length rest = true) (he : h[q]? = some (.inr (ci, fs))) (hM : tc_M y cc nL ret d' (.inr (some q) :: [b0, b1, b2]) (h, none, h', 0, 0)) (hcs : nc ≤ K.2.2.2.1 ∧ ns ≤ K.2.2.2.2) (hd : decode M.1 pc = .ok (.invokevirtual idx, 3)) (k : tc_V M K nc ns h' (pc + 3) L (rest)) : tc_V M K nc ns h pc L (b2 :: b1 :: b0 :: .inr (some q) :: rest) := tv_callN [b0, b1, b2] hM hK.1 hK.2.1 hK.2.2.1 hK.2.2.2.1 he hK.2.2.2.2 hdd rfl rfl hrest hw hd hcs k
theorem tv_callS4r {h' : List tcC} {rest : List tcV} {y : MethodName} {cc : ByteArray} {nL idx d' : Nat} {ret : Option FieldType} {b0 b1 b2 b3 : tcV} {v : tcV} (hK : tc_KS M.2.2.1 idx y cc nL ret 4) (hdd : d' < M.2.2.2.2.1) (hrest : rest.length ≤ 8) (hw : tc_okL h.length L = true ∧ tc_okS h.length rest = true) (hM : tc_M y cc nL ret d' [b0, b1, b2, b3] (h, some v, h', 0, 0)) (hcs : nc ≤ K.2.2.2.1 ∧ ns ≤ K.2.2.2.2) (hd : decode M.1 pc = .ok (.invokestatic idx, 3)) (k : tc_V M K nc ns h' (pc + 3) L (v :: rest)) : tc_V M K nc ns h pc L (b3 :: b2 :: b1 :: b0 :: rest) := tv_callS [b0, b1, b2, b3] hM hK.1 hK.2.1 hK.2.2 hdd rfl rfl hrest hw hd hcs k
theorem tv_callV4r {h' : List tcC} {rest : List tcV} {y : MethodName} {cc : ByteArray} {nL idx d' : Nat} {ret : Option FieldType} {b0 b1 b2 b3 : tcV} {v : tcV} {q ci N : Nat} {T : u_T} {fs : List tcV} (hK : tc_KV M.2.2.1 idx y cc nL ret 4 ci T N) (hdd : d' < M.2.2.2.2.1) (hrest : rest.length ≤ 8) (hw : tc_okL h.length L = true ∧ tc_okS h.length rest = true) (he : h[q]? = some (.inr (ci, fs))) (hM : tc_M y cc nL ret d' (.inr (some q) :: [b0, b1, b2, b3]) (h, some v, h', 0, 0)) (hcs : nc ≤ K.2.2.2.1 ∧ ns ≤ K.2.2.2.2) (hd : decode M.1 pc = .ok (.invokevirtual idx, 3)) (k : tc_V M K nc ns h' (pc + 3) L (v :: rest)) : tc_V M K nc ns h pc L (b3 :: b2 :: b1 :: b0 :: .inr (some q) :: rest) := tv_callV [b0, b1, b2, b3] hM hK.1 hK.2.1 hK.2.2.1 hK.2.2.2.1 he hK.2.2.2.2 hdd rfl rfl hrest hw hd hcs k
theorem tv_callN4r {h' : List tcC} {rest : List tcV} {y : MethodName} {cc : ByteArray} {nL idx d' : Nat} {ret : Option FieldType} {b0 b1 b2 b3 : tcV} {v : tcV} {q ci N : Nat} {T : u_T} {fs : List tcV} {host : String} (hK : tc_KN M.2.2.1 idx y cc nL ret 4 ci T N host) (hdd : d' < M.2.2.2.2.1) (hrest : rest.length ≤ 8) (hw : tc_okL h.length L = true ∧ tc_okS h.length rest = true) (he : h[q]? = some (.inr (ci, fs))) (hM : tc_M y cc nL ret d' (.inr (some q) :: [b0, b1, b2, b3]) (h, some v, h', 0, 0)) (hcs : nc ≤ K.2.2.2.1 ∧ ns ≤ K.2.2.2.2) (hd : decode M.1 pc = .ok (.invokevirtual idx, 3)) (k : tc_V M K nc ns h' (pc + 3) L (v :: rest)) : tc_V M K nc ns h pc L (b3 :: b2 :: b1 :: b0 :: .inr (some q) :: rest) := tv_callN [b0, b1, b2, b3] hM hK.1 hK.2.1 hK.2.2.1 hK.2.2.2.1 he hK.2.2.2.2 hdd rfl rfl hrest hw hd hcs k
theorem tv_callS4v {h' : List tcC} {rest : List tcV} {y : MethodName} {cc : ByteArray} {nL idx d' : Nat} {ret : Option FieldType} {b0 b1 b2 b3 : tcV}  (hK : tc_KS M.2.2.1 idx y cc nL ret 4) (hdd : d' < M.2.2.2.2.1) (hrest : rest.length ≤ 8) (hw : tc_okL h.length L = true ∧ tc_okS h.length rest = true) (hM : tc_M y cc nL ret d' [b0, b1, b2, b3] (h, none, h', 0, 0)) (hcs : nc ≤ K.2.2.2.1 ∧ ns ≤ K.2.2.2.2) (hd : decode M.1 pc = .ok (.invokestatic idx, 3)) (k : tc_V M K nc ns h' (pc + 3) L (rest)) : tc_V M K nc ns h pc L (b3 :: b2 :: b1 :: b0 :: rest) := tv_callS [b0, b1, b2, b3] hM hK.1 hK.2.1 hK.2.2 hdd rfl rfl hrest hw hd hcs k
theorem tv_callV4v {h' : List tcC} {rest : List tcV} {y : MethodName} {cc : ByteArray} {nL idx d' : Nat} {ret : Option FieldType} {b0 b1 b2 b3 : tcV}  {q ci N : Nat} {T : u_T} {fs : List tcV} (hK : tc_KV M.2.2.1 idx y cc nL ret 4 ci T N) (hdd : d' < M.2.2.2.2.1) (hrest : rest.length ≤ 8) (hw : tc_okL h.length L = true ∧ tc_okS h.length rest = true) (he : h[q]? = some (.inr (ci, fs))) (hM : tc_M y cc nL ret d' (.inr (some q) :: [b0, b1, b2, b3]) (h, none, h', 0, 0)) (hcs : nc ≤ K.2.2.2.1 ∧ ns ≤ K.2.2.2.2) (hd : decode M.1 pc = .ok (.invokevirtual idx, 3)) (k : tc_V M K nc ns h' (pc + 3) L (rest)) : tc_V M K nc ns h pc L (b3 :: b2 :: b1 :: b0 :: .inr (some q) :: rest) := tv_callV [b0, b1, b2, b3] hM hK.1 hK.2.1 hK.2.2.1 hK.2.2.2.1 he hK.2.2.2.2 hdd rfl rfl hrest hw hd hcs k
theorem tv_callN4v {h' : List tcC} {rest : List tcV} {y : MethodName} {cc : ByteArray} {nL idx d' : Nat} {ret : Option FieldType} {b0 b1 b2 b3 : tcV}  {q ci N : Nat} {T : u_T} {fs : List tcV} {host : String} (hK : tc_KN M.2.2.1 idx y cc nL ret 4 ci T N host) (hdd : d' < M.2.2.2.2.1) (hrest : rest.length ≤ 8) (hw : tc_okL h.length L = true ∧ tc_okS h.length rest = true) (he : h[q]? = some (.inr (ci, fs))) (hM : tc_M y cc nL ret d' (.inr (some q) :: [b0, b1, b2, b3]) (h, none, h', 0, 0)) (hcs : nc ≤ K.2.2.2.1 ∧ ns ≤ K.2.2.2.2) (hd : decode M.1 pc = .ok (.invokevirtual idx, 3)) (k : tc_V M K nc ns h' (pc + 3) L (rest)) : tc_V M K nc ns h pc L (b3 :: b2 :: b1 :: b0 :: .inr (some q) :: rest) := tv_callN [b0, b1, b2, b3] hM hK.1 hK.2.1 hK.2.2.1 hK.2.2.2.1 he hK.2.2.2.2 hdd rfl rfl hrest hw hd hcs k
end TW
