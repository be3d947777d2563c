section
-- ===== PART A: goes FIRST, ahead of the names: the tables' words, and 'selects' of the private methods out of them =====
/-- a private method of a class that the tables say can be made, by its rows of tables_1 -/
def lw_okq (q : MethodName × Nat) : Prop := (q.1.cls ≠ "java/lang/invoke/MethodHandle" ∧ q.1.cls ≠ "java/lang/invoke/VarHandle") ∧ Cond.instantiable q.1.cls q.2 ∈ tables_1 ∧ Cond.privateMethod q.1 ∈ tables_1 ∧ Cond.instanceMethod q.1 ∈ tables_1
theorem lw_p0 : lw_okq (⟨"ToolChoice", "isTool", "(I)Z"⟩, 19) := ⟨⟨by decide +kernel, by decide +kernel⟩, List.mem_of_getElem? (i := 7) (by decide +kernel), List.mem_of_getElem? (i := 125) (by decide +kernel), List.mem_of_getElem? (i := 126) (by decide +kernel)⟩
theorem lw_p1 : lw_okq (⟨"ToolChoice", "placeOf", "(I)I"⟩, 19) := ⟨⟨by decide +kernel, by decide +kernel⟩, List.mem_of_getElem? (i := 7) (by decide +kernel), List.mem_of_getElem? (i := 129) (by decide +kernel), List.mem_of_getElem? (i := 130) (by decide +kernel)⟩
theorem lw_p2 : lw_okq (⟨"ToolChoice$AskedKinds", "put", "(IIZ)V"⟩, 4) := ⟨⟨by decide +kernel, by decide +kernel⟩, List.mem_of_getElem? (i := 15) (by decide +kernel), List.mem_of_getElem? (i := 144) (by decide +kernel), List.mem_of_getElem? (i := 145) (by decide +kernel)⟩
theorem lw_p3 : lw_okq (⟨"ToolChoice$AskedKinds", "find", "(I)I"⟩, 4) := ⟨⟨by decide +kernel, by decide +kernel⟩, List.mem_of_getElem? (i := 15) (by decide +kernel), List.mem_of_getElem? (i := 148) (by decide +kernel), List.mem_of_getElem? (i := 149) (by decide +kernel)⟩
theorem lw_p4 : lw_okq (⟨"ToolChoice$AskedKinds", "remove", "(I)Z"⟩, 4) := ⟨⟨by decide +kernel, by decide +kernel⟩, List.mem_of_getElem? (i := 15) (by decide +kernel), List.mem_of_getElem? (i := 156) (by decide +kernel), List.mem_of_getElem? (i := 157) (by decide +kernel)⟩
theorem lw_p5 : lw_okq (⟨"ToolChoice", "isPlatform", "(I)Z"⟩, 19) := ⟨⟨by decide +kernel, by decide +kernel⟩, List.mem_of_getElem? (i := 7) (by decide +kernel), List.mem_of_getElem? (i := 168) (by decide +kernel), List.mem_of_getElem? (i := 169) (by decide +kernel)⟩
theorem lw_p6 : lw_okq (⟨"ToolChoice", "settleBuilt", "()V"⟩, 19) := ⟨⟨by decide +kernel, by decide +kernel⟩, List.mem_of_getElem? (i := 7) (by decide +kernel), List.mem_of_getElem? (i := 172) (by decide +kernel), List.mem_of_getElem? (i := 173) (by decide +kernel)⟩
theorem lw_p7 : lw_okq (⟨"ToolChoice", "platformsHaving", "(I)I"⟩, 19) := ⟨⟨by decide +kernel, by decide +kernel⟩, List.mem_of_getElem? (i := 7) (by decide +kernel), List.mem_of_getElem? (i := 176) (by decide +kernel), List.mem_of_getElem? (i := 177) (by decide +kernel)⟩
theorem lw_p8 : lw_okq (⟨"ToolChoice", "growBuilt", "()Z"⟩, 19) := ⟨⟨by decide +kernel, by decide +kernel⟩, List.mem_of_getElem? (i := 7) (by decide +kernel), List.mem_of_getElem? (i := 180) (by decide +kernel), List.mem_of_getElem? (i := 181) (by decide +kernel)⟩
theorem lw_p9 : lw_okq (⟨"ToolChoice", "platformsWithSupplies", "(I)I"⟩, 19) := ⟨⟨by decide +kernel, by decide +kernel⟩, List.mem_of_getElem? (i := 7) (by decide +kernel), List.mem_of_getElem? (i := 184) (by decide +kernel), List.mem_of_getElem? (i := 185) (by decide +kernel)⟩
theorem lw_p10 : lw_okq (⟨"ToolChoice$RowList", "clear", "()V"⟩, 2) := ⟨⟨by decide +kernel, by decide +kernel⟩, List.mem_of_getElem? (i := 36) (by decide +kernel), List.mem_of_getElem? (i := 188) (by decide +kernel), List.mem_of_getElem? (i := 189) (by decide +kernel)⟩
theorem lw_p11 : lw_okq (⟨"ToolChoice", "takeTools", "(II)Z"⟩, 19) := ⟨⟨by decide +kernel, by decide +kernel⟩, List.mem_of_getElem? (i := 7) (by decide +kernel), List.mem_of_getElem? (i := 192) (by decide +kernel), List.mem_of_getElem? (i := 193) (by decide +kernel)⟩
theorem lw_p12 : lw_okq (⟨"ToolChoice$AskedKinds", "size", "()I"⟩, 4) := ⟨⟨by decide +kernel, by decide +kernel⟩, List.mem_of_getElem? (i := 15) (by decide +kernel), List.mem_of_getElem? (i := 196) (by decide +kernel), List.mem_of_getElem? (i := 197) (by decide +kernel)⟩
theorem lw_p13 : lw_okq (⟨"ToolChoice$AskedKinds", "kindAt", "(I)I"⟩, 4) := ⟨⟨by decide +kernel, by decide +kernel⟩, List.mem_of_getElem? (i := 15) (by decide +kernel), List.mem_of_getElem? (i := 200) (by decide +kernel), List.mem_of_getElem? (i := 201) (by decide +kernel)⟩
theorem lw_p14 : lw_okq (⟨"ToolChoice", "firstGood", "(III)I"⟩, 19) := ⟨⟨by decide +kernel, by decide +kernel⟩, List.mem_of_getElem? (i := 7) (by decide +kernel), List.mem_of_getElem? (i := 204) (by decide +kernel), List.mem_of_getElem? (i := 205) (by decide +kernel)⟩
theorem lw_p15 : lw_okq (⟨"ToolChoice", "whyNot", "(III)I"⟩, 19) := ⟨⟨by decide +kernel, by decide +kernel⟩, List.mem_of_getElem? (i := 7) (by decide +kernel), List.mem_of_getElem? (i := 208) (by decide +kernel), List.mem_of_getElem? (i := 209) (by decide +kernel)⟩
def lw_privs_1 : List (MethodName × Nat) := [(⟨"ToolChoice", "isTool", "(I)Z"⟩, 19), (⟨"ToolChoice", "placeOf", "(I)I"⟩, 19), (⟨"ToolChoice$AskedKinds", "put", "(IIZ)V"⟩, 4), (⟨"ToolChoice$AskedKinds", "find", "(I)I"⟩, 4), (⟨"ToolChoice$AskedKinds", "remove", "(I)Z"⟩, 4), (⟨"ToolChoice", "isPlatform", "(I)Z"⟩, 19), (⟨"ToolChoice", "settleBuilt", "()V"⟩, 19), (⟨"ToolChoice", "platformsHaving", "(I)I"⟩, 19), (⟨"ToolChoice", "growBuilt", "()Z"⟩, 19), (⟨"ToolChoice", "platformsWithSupplies", "(I)I"⟩, 19), (⟨"ToolChoice$RowList", "clear", "()V"⟩, 2), (⟨"ToolChoice", "takeTools", "(II)Z"⟩, 19), (⟨"ToolChoice$AskedKinds", "size", "()I"⟩, 4), (⟨"ToolChoice$AskedKinds", "kindAt", "(I)I"⟩, 4), (⟨"ToolChoice", "firstGood", "(III)I"⟩, 19), (⟨"ToolChoice", "whyNot", "(III)I"⟩, 19)]
theorem lw_r1 : ∀ q ∈ lw_privs_1, lw_okq q := List.forall_mem_cons.mpr ⟨lw_p0, List.forall_mem_cons.mpr ⟨lw_p1, List.forall_mem_cons.mpr ⟨lw_p2, List.forall_mem_cons.mpr ⟨lw_p3, List.forall_mem_cons.mpr ⟨lw_p4, List.forall_mem_cons.mpr ⟨lw_p5, List.forall_mem_cons.mpr ⟨lw_p6, List.forall_mem_cons.mpr ⟨lw_p7, List.forall_mem_cons.mpr ⟨lw_p8, List.forall_mem_cons.mpr ⟨lw_p9, List.forall_mem_cons.mpr ⟨lw_p10, List.forall_mem_cons.mpr ⟨lw_p11, List.forall_mem_cons.mpr ⟨lw_p12, List.forall_mem_cons.mpr ⟨lw_p13, List.forall_mem_cons.mpr ⟨lw_p14, List.forall_mem_cons.mpr ⟨lw_p15, fun _ h => absurd h List.not_mem_nil⟩⟩⟩⟩⟩⟩⟩⟩⟩⟩⟩⟩⟩⟩⟩⟩
theorem lw_p16 : lw_okq (⟨"ToolChoice$AskedKinds", "leastVersion", "(I)I"⟩, 4) := ⟨⟨by decide +kernel, by decide +kernel⟩, List.mem_of_getElem? (i := 15) (by decide +kernel), List.mem_of_getElem? (i := 212) (by decide +kernel), List.mem_of_getElem? (i := 213) (by decide +kernel)⟩
theorem lw_p17 : lw_okq (⟨"ToolChoice", "lackOf", "(IIII)I"⟩, 19) := ⟨⟨by decide +kernel, by decide +kernel⟩, List.mem_of_getElem? (i := 7) (by decide +kernel), List.mem_of_getElem? (i := 216) (by decide +kernel), List.mem_of_getElem? (i := 217) (by decide +kernel)⟩
theorem lw_p18 : lw_okq (⟨"ToolChoice", "lowestUnsupplied", "(II)I"⟩, 19) := ⟨⟨by decide +kernel, by decide +kernel⟩, List.mem_of_getElem? (i := 7) (by decide +kernel), List.mem_of_getElem? (i := 223) (by decide +kernel), List.mem_of_getElem? (i := 224) (by decide +kernel)⟩
theorem lw_p19 : lw_okq (⟨"ToolChoice$RowList", "add", "(IIII)V"⟩, 2) := ⟨⟨by decide +kernel, by decide +kernel⟩, List.mem_of_getElem? (i := 36) (by decide +kernel), List.mem_of_getElem? (i := 227) (by decide +kernel), List.mem_of_getElem? (i := 228) (by decide +kernel)⟩
theorem lw_p20 : lw_okq (⟨"ToolChoice$AskedKinds", "isNeeded", "(I)Z"⟩, 4) := ⟨⟨by decide +kernel, by decide +kernel⟩, List.mem_of_getElem? (i := 15) (by decide +kernel), List.mem_of_getElem? (i := 231) (by decide +kernel), List.mem_of_getElem? (i := 232) (by decide +kernel)⟩
theorem lw_p21 : lw_okq (⟨"ToolChoice$RowList", "size", "()I"⟩, 2) := ⟨⟨by decide +kernel, by decide +kernel⟩, List.mem_of_getElem? (i := 36) (by decide +kernel), List.mem_of_getElem? (i := 243) (by decide +kernel), List.mem_of_getElem? (i := 244) (by decide +kernel)⟩
theorem lw_p22 : lw_okq (⟨"ToolChoice$RowList", "cell", "(II)I"⟩, 2) := ⟨⟨by decide +kernel, by decide +kernel⟩, List.mem_of_getElem? (i := 36) (by decide +kernel), List.mem_of_getElem? (i := 251) (by decide +kernel), List.mem_of_getElem? (i := 252) (by decide +kernel)⟩
theorem lw_p23 : lw_okq (⟨"ToolChoice", "settleLeads", "()V"⟩, 19) := ⟨⟨by decide +kernel, by decide +kernel⟩, List.mem_of_getElem? (i := 7) (by decide +kernel), List.mem_of_getElem? (i := 263) (by decide +kernel), List.mem_of_getElem? (i := 264) (by decide +kernel)⟩
theorem lw_p24 : lw_okq (⟨"ToolChoice", "stepsFrom", "(I)I"⟩, 19) := ⟨⟨by decide +kernel, by decide +kernel⟩, List.mem_of_getElem? (i := 7) (by decide +kernel), List.mem_of_getElem? (i := 267) (by decide +kernel), List.mem_of_getElem? (i := 268) (by decide +kernel)⟩
theorem lw_p25 : lw_okq (⟨"ToolChoice", "unbuiltOn", "(I)I"⟩, 19) := ⟨⟨by decide +kernel, by decide +kernel⟩, List.mem_of_getElem? (i := 7) (by decide +kernel), List.mem_of_getElem? (i := 271) (by decide +kernel), List.mem_of_getElem? (i := 272) (by decide +kernel)⟩
theorem lw_p26 : lw_okq (⟨"ToolChoiceModel", "isTool", "(I)Z"⟩, 25) := ⟨⟨by decide +kernel, by decide +kernel⟩, List.mem_of_getElem? (i := 275) (by decide +kernel), List.mem_of_getElem? (i := 372) (by decide +kernel), List.mem_of_getElem? (i := 373) (by decide +kernel)⟩
theorem lw_p27 : lw_okq (⟨"ToolChoiceModel", "wants", "(II)Z"⟩, 25) := ⟨⟨by decide +kernel, by decide +kernel⟩, List.mem_of_getElem? (i := 275) (by decide +kernel), List.mem_of_getElem? (i := 380) (by decide +kernel), List.mem_of_getElem? (i := 381) (by decide +kernel)⟩
theorem lw_p28 : lw_okq (⟨"ToolChoiceModel", "place", "(I)I"⟩, 25) := ⟨⟨by decide +kernel, by decide +kernel⟩, List.mem_of_getElem? (i := 275) (by decide +kernel), List.mem_of_getElem? (i := 388) (by decide +kernel), List.mem_of_getElem? (i := 389) (by decide +kernel)⟩
theorem lw_p29 : lw_okq (⟨"ToolChoiceModel", "isPlatform", "(I)Z"⟩, 25) := ⟨⟨by decide +kernel, by decide +kernel⟩, List.mem_of_getElem? (i := 275) (by decide +kernel), List.mem_of_getElem? (i := 404) (by decide +kernel), List.mem_of_getElem? (i := 405) (by decide +kernel)⟩
theorem lw_p30 : lw_okq (⟨"ToolChoiceModel", "build", "()V"⟩, 25) := ⟨⟨by decide +kernel, by decide +kernel⟩, List.mem_of_getElem? (i := 275) (by decide +kernel), List.mem_of_getElem? (i := 408) (by decide +kernel), List.mem_of_getElem? (i := 409) (by decide +kernel)⟩
theorem lw_p31 : lw_okq (⟨"ToolChoiceModel", "runsOn", "(II)Z"⟩, 25) := ⟨⟨by decide +kernel, by decide +kernel⟩, List.mem_of_getElem? (i := 275) (by decide +kernel), List.mem_of_getElem? (i := 415) (by decide +kernel), List.mem_of_getElem? (i := 416) (by decide +kernel)⟩
def lw_privs_2 : List (MethodName × Nat) := [(⟨"ToolChoice$AskedKinds", "leastVersion", "(I)I"⟩, 4), (⟨"ToolChoice", "lackOf", "(IIII)I"⟩, 19), (⟨"ToolChoice", "lowestUnsupplied", "(II)I"⟩, 19), (⟨"ToolChoice$RowList", "add", "(IIII)V"⟩, 2), (⟨"ToolChoice$AskedKinds", "isNeeded", "(I)Z"⟩, 4), (⟨"ToolChoice$RowList", "size", "()I"⟩, 2), (⟨"ToolChoice$RowList", "cell", "(II)I"⟩, 2), (⟨"ToolChoice", "settleLeads", "()V"⟩, 19), (⟨"ToolChoice", "stepsFrom", "(I)I"⟩, 19), (⟨"ToolChoice", "unbuiltOn", "(I)I"⟩, 19), (⟨"ToolChoiceModel", "isTool", "(I)Z"⟩, 25), (⟨"ToolChoiceModel", "wants", "(II)Z"⟩, 25), (⟨"ToolChoiceModel", "place", "(I)I"⟩, 25), (⟨"ToolChoiceModel", "isPlatform", "(I)Z"⟩, 25), (⟨"ToolChoiceModel", "build", "()V"⟩, 25), (⟨"ToolChoiceModel", "runsOn", "(II)Z"⟩, 25)]
theorem lw_r2 : ∀ q ∈ lw_privs_2, lw_okq q := List.forall_mem_cons.mpr ⟨lw_p16, List.forall_mem_cons.mpr ⟨lw_p17, List.forall_mem_cons.mpr ⟨lw_p18, List.forall_mem_cons.mpr ⟨lw_p19, List.forall_mem_cons.mpr ⟨lw_p20, List.forall_mem_cons.mpr ⟨lw_p21, List.forall_mem_cons.mpr ⟨lw_p22, List.forall_mem_cons.mpr ⟨lw_p23, List.forall_mem_cons.mpr ⟨lw_p24, List.forall_mem_cons.mpr ⟨lw_p25, List.forall_mem_cons.mpr ⟨lw_p26, List.forall_mem_cons.mpr ⟨lw_p27, List.forall_mem_cons.mpr ⟨lw_p28, List.forall_mem_cons.mpr ⟨lw_p29, List.forall_mem_cons.mpr ⟨lw_p30, List.forall_mem_cons.mpr ⟨lw_p31, fun _ h => absurd h List.not_mem_nil⟩⟩⟩⟩⟩⟩⟩⟩⟩⟩⟩⟩⟩⟩⟩⟩
theorem lw_p32 : lw_okq (⟨"ToolChoiceModel", "lacking", "(II)I"⟩, 25) := ⟨⟨by decide +kernel, by decide +kernel⟩, List.mem_of_getElem? (i := 275) (by decide +kernel), List.mem_of_getElem? (i := 419) (by decide +kernel), List.mem_of_getElem? (i := 420) (by decide +kernel)⟩
theorem lw_p33 : lw_okq (⟨"ToolChoiceModel", "missing", "(II)I"⟩, 25) := ⟨⟨by decide +kernel, by decide +kernel⟩, List.mem_of_getElem? (i := 275) (by decide +kernel), List.mem_of_getElem? (i := 423) (by decide +kernel), List.mem_of_getElem? (i := 424) (by decide +kernel)⟩
theorem lw_p34 : lw_okq (⟨"ToolChoiceModel", "isThere", "(II)Z"⟩, 25) := ⟨⟨by decide +kernel, by decide +kernel⟩, List.mem_of_getElem? (i := 275) (by decide +kernel), List.mem_of_getElem? (i := 427) (by decide +kernel), List.mem_of_getElem? (i := 428) (by decide +kernel)⟩
theorem lw_p35 : lw_okq (⟨"ToolChoiceModel", "makesFor", "(II)Z"⟩, 25) := ⟨⟨by decide +kernel, by decide +kernel⟩, List.mem_of_getElem? (i := 275) (by decide +kernel), List.mem_of_getElem? (i := 431) (by decide +kernel), List.mem_of_getElem? (i := 432) (by decide +kernel)⟩
theorem lw_p36 : lw_okq (⟨"ToolChoiceModel", "tryOn", "(II)Z"⟩, 25) := ⟨⟨by decide +kernel, by decide +kernel⟩, List.mem_of_getElem? (i := 275) (by decide +kernel), List.mem_of_getElem? (i := 439) (by decide +kernel), List.mem_of_getElem? (i := 440) (by decide +kernel)⟩
theorem lw_p37 : lw_okq (⟨"ToolChoiceModel", "look", "(III)I"⟩, 25) := ⟨⟨by decide +kernel, by decide +kernel⟩, List.mem_of_getElem? (i := 275) (by decide +kernel), List.mem_of_getElem? (i := 443) (by decide +kernel), List.mem_of_getElem? (i := 444) (by decide +kernel)⟩
theorem lw_p38 : lw_okq (⟨"ToolChoiceModel", "why", "(III)I"⟩, 25) := ⟨⟨by decide +kernel, by decide +kernel⟩, List.mem_of_getElem? (i := 275) (by decide +kernel), List.mem_of_getElem? (i := 447) (by decide +kernel), List.mem_of_getElem? (i := 448) (by decide +kernel)⟩
theorem lw_p39 : lw_okq (⟨"ToolChoiceModel", "tell", "(IIII)V"⟩, 25) := ⟨⟨by decide +kernel, by decide +kernel⟩, List.mem_of_getElem? (i := 275) (by decide +kernel), List.mem_of_getElem? (i := 451) (by decide +kernel), List.mem_of_getElem? (i := 452) (by decide +kernel)⟩
theorem lw_p40 : lw_okq (⟨"ToolChoiceModel", "isRing", "(I)Z"⟩, 25) := ⟨⟨by decide +kernel, by decide +kernel⟩, List.mem_of_getElem? (i := 275) (by decide +kernel), List.mem_of_getElem? (i := 471) (by decide +kernel), List.mem_of_getElem? (i := 472) (by decide +kernel)⟩
theorem lw_p41 : lw_okq (⟨"ToolChoiceModel", "comesBack", "(I)Z"⟩, 25) := ⟨⟨by decide +kernel, by decide +kernel⟩, List.mem_of_getElem? (i := 275) (by decide +kernel), List.mem_of_getElem? (i := 475) (by decide +kernel), List.mem_of_getElem? (i := 476) (by decide +kernel)⟩
theorem lw_p42 : lw_okq (⟨"ToolChoiceModel", "isPlace", "(I)Z"⟩, 25) := ⟨⟨by decide +kernel, by decide +kernel⟩, List.mem_of_getElem? (i := 275) (by decide +kernel), List.mem_of_getElem? (i := 479) (by decide +kernel), List.mem_of_getElem? (i := 480) (by decide +kernel)⟩
theorem lw_p43 : lw_okq (⟨"ToolChoiceModel", "leads", "(II)Z"⟩, 25) := ⟨⟨by decide +kernel, by decide +kernel⟩, List.mem_of_getElem? (i := 275) (by decide +kernel), List.mem_of_getElem? (i := 483) (by decide +kernel), List.mem_of_getElem? (i := 484) (by decide +kernel)⟩
def lw_privs_3 : List (MethodName × Nat) := [(⟨"ToolChoiceModel", "lacking", "(II)I"⟩, 25), (⟨"ToolChoiceModel", "missing", "(II)I"⟩, 25), (⟨"ToolChoiceModel", "isThere", "(II)Z"⟩, 25), (⟨"ToolChoiceModel", "makesFor", "(II)Z"⟩, 25), (⟨"ToolChoiceModel", "tryOn", "(II)Z"⟩, 25), (⟨"ToolChoiceModel", "look", "(III)I"⟩, 25), (⟨"ToolChoiceModel", "why", "(III)I"⟩, 25), (⟨"ToolChoiceModel", "tell", "(IIII)V"⟩, 25), (⟨"ToolChoiceModel", "isRing", "(I)Z"⟩, 25), (⟨"ToolChoiceModel", "comesBack", "(I)Z"⟩, 25), (⟨"ToolChoiceModel", "isPlace", "(I)Z"⟩, 25), (⟨"ToolChoiceModel", "leads", "(II)Z"⟩, 25)]
theorem lw_r3 : ∀ q ∈ lw_privs_3, lw_okq q := List.forall_mem_cons.mpr ⟨lw_p32, List.forall_mem_cons.mpr ⟨lw_p33, List.forall_mem_cons.mpr ⟨lw_p34, List.forall_mem_cons.mpr ⟨lw_p35, List.forall_mem_cons.mpr ⟨lw_p36, List.forall_mem_cons.mpr ⟨lw_p37, List.forall_mem_cons.mpr ⟨lw_p38, List.forall_mem_cons.mpr ⟨lw_p39, List.forall_mem_cons.mpr ⟨lw_p40, List.forall_mem_cons.mpr ⟨lw_p41, List.forall_mem_cons.mpr ⟨lw_p42, List.forall_mem_cons.mpr ⟨lw_p43, fun _ h => absurd h List.not_mem_nil⟩⟩⟩⟩⟩⟩⟩⟩⟩⟩⟩⟩
def lw_privs : List (MethodName × Nat) := lw_privs_1 ++ (lw_privs_2 ++ (lw_privs_3))
def lw_tbl : List Cond := k2_sels lw_privs ++ tables_1
theorem lw_privs_ok : ∀ q ∈ lw_privs, lw_okq q := by
  show ∀ q ∈ lw_privs_1 ++ (lw_privs_2 ++ (lw_privs_3)), lw_okq q
  exact List.forall_mem_append.mpr ⟨lw_r1, List.forall_mem_append.mpr ⟨lw_r2, lw_r3⟩⟩
def RAK : String := "ToolChoice$AskedKinds"
def TAK : u_T := fun k => match k with
  | 0 => ("ToolChoice$AskedKinds", "kinds", "[I", true)
  | 1 => ("ToolChoice$AskedKinds", "versions", "[I", true)
  | 2 => ("ToolChoice$AskedKinds", "needed", "[Z", true)
  | _ => ("ToolChoice$AskedKinds", "count", "I", false)
def tyAK : Nat → FieldType := fun k => match k with
  | 0 => .array .int
  | 1 => .array .int
  | 2 => .array .boolean
  | _ => .int
theorem nmAK : ∀ a, a < 4 → ∀ b, b < 4 → a ≠ b → (TAK a).2.1 ≠ (TAK b).2.1 := by decide +kernel
theorem okAK : ∀ k, k < 4 → parseFieldDescriptor (TAK k).2.2.1 = some (tyAK k) := by decide +kernel
def RRO : String := "ToolChoice$RowList"
def TRO : u_T := fun k => match k with
  | 0 => ("ToolChoice$RowList", "cells", "[I", true)
  | _ => ("ToolChoice$RowList", "count", "I", false)
def tyRO : Nat → FieldType := fun k => match k with
  | 0 => .array .int
  | _ => .int
theorem nmRO : ∀ a, a < 2 → ∀ b, b < 2 → a ≠ b → (TRO a).2.1 ≠ (TRO b).2.1 := by decide +kernel
theorem okRO : ∀ k, k < 2 → parseFieldDescriptor (TRO k).2.2.1 = some (tyRO k) := by decide +kernel
def RTC : String := "ToolChoice"
def TTC : u_T := fun k => match k with
  | 0 => ("ToolChoice", "platformHas", "[I", true)
  | 1 => ("ToolChoice", "platformCount", "I", false)
  | 2 => ("ToolChoice", "toolKind", "[I", true)
  | 3 => ("ToolChoice", "runsWants", "[I", true)
  | 4 => ("ToolChoice", "makesWants", "[I", true)
  | 5 => ("ToolChoice", "toolVersion", "[I", true)
  | 6 => ("ToolChoice", "neededKinds", "[I", true)
  | 7 => ("ToolChoice", "toolAtPlace", "[I", true)
  | 8 => ("ToolChoice", "toolCount", "I", false)
  | 9 => ("ToolChoice", "needCount", "I", false)
  | 10 => ("ToolChoice", "asked", "LToolChoice$AskedKinds;", true)
  | 11 => ("ToolChoice", "forcedTool", "[I", true)
  | 12 => ("ToolChoice", "takenTool", "[I", true)
  | 13 => ("ToolChoice", "told", "LToolChoice$RowList;", true)
  | 14 => ("ToolChoice", "runsOn", "[I", true)
  | 15 => ("ToolChoice", "makesFor", "[I", true)
  | 16 => ("ToolChoice", "builtOn", "[I", true)
  | 17 => ("ToolChoice", "suppliedFor", "[I", true)
  | _ => ("ToolChoice", "leadsTo", "[I", true)
def tyTC : Nat → FieldType := fun k => match k with
  | 0 => .array .int
  | 1 => .int
  | 2 => .array .int
  | 3 => .array .int
  | 4 => .array .int
  | 5 => .array .int
  | 6 => .array .int
  | 7 => .array .int
  | 8 => .int
  | 9 => .int
  | 10 => .object "ToolChoice$AskedKinds"
  | 11 => .array .int
  | 12 => .array .int
  | 13 => .object "ToolChoice$RowList"
  | 14 => .array .int
  | 15 => .array .int
  | 16 => .array .int
  | 17 => .array .int
  | _ => .array .int
theorem nmTC : ∀ a, a < 19 → ∀ b, b < 19 → a ≠ b → (TTC a).2.1 ≠ (TTC b).2.1 := by decide +kernel
theorem okTC : ∀ k, k < 19 → parseFieldDescriptor (TTC k).2.2.1 = some (tyTC k) := by decide +kernel
def RMO : String := "ToolChoiceModel"
def TMO : u_T := fun k => match k with
  | 0 => ("ToolChoiceModel", "code", "I", false)
  | 1 => ("ToolChoiceModel", "platforms", "I", false)
  | 2 => ("ToolChoiceModel", "tools", "I", false)
  | 3 => ("ToolChoiceModel", "needs", "I", false)
  | 4 => ("ToolChoiceModel", "asked", "I", false)
  | 5 => ("ToolChoiceModel", "constraints", "[I", true)
  | 6 => ("ToolChoiceModel", "kind", "[I", true)
  | 7 => ("ToolChoiceModel", "runs", "[I", true)
  | 8 => ("ToolChoiceModel", "makes", "[I", true)
  | 9 => ("ToolChoiceModel", "version", "[I", true)
  | 10 => ("ToolChoiceModel", "order", "[I", true)
  | 11 => ("ToolChoiceModel", "needTool", "[I", true)
  | 12 => ("ToolChoiceModel", "needKind", "[I", true)
  | 13 => ("ToolChoiceModel", "askedKind", "[I", true)
  | 14 => ("ToolChoiceModel", "least", "[I", true)
  | 15 => ("ToolChoiceModel", "forced", "[I", true)
  | 16 => ("ToolChoiceModel", "chosen", "[I", true)
  | 17 => ("ToolChoiceModel", "needed", "[Z", true)
  | 18 => ("ToolChoiceModel", "built", "[Z", true)
  | 19 => ("ToolChoiceModel", "met", "[Z", true)
  | 20 => ("ToolChoiceModel", "rowPlatform", "[I", true)
  | 21 => ("ToolChoiceModel", "rowTool", "[I", true)
  | 22 => ("ToolChoiceModel", "rowWhy", "[I", true)
  | 23 => ("ToolChoiceModel", "rowWith", "[I", true)
  | _ => ("ToolChoiceModel", "rows", "I", false)
def tyMO : Nat → FieldType := fun k => match k with
  | 0 => .int
  | 1 => .int
  | 2 => .int
  | 3 => .int
  | 4 => .int
  | 5 => .array .int
  | 6 => .array .int
  | 7 => .array .int
  | 8 => .array .int
  | 9 => .array .int
  | 10 => .array .int
  | 11 => .array .int
  | 12 => .array .int
  | 13 => .array .int
  | 14 => .array .int
  | 15 => .array .int
  | 16 => .array .int
  | 17 => .array .boolean
  | 18 => .array .boolean
  | 19 => .array .boolean
  | 20 => .array .int
  | 21 => .array .int
  | 22 => .array .int
  | 23 => .array .int
  | _ => .int
theorem nmMO : ∀ a, a < 25 → ∀ b, b < 25 → a ≠ b → (TMO a).2.1 ≠ (TMO b).2.1 := by decide +kernel
theorem okMO : ∀ k, k < 25 → parseFieldDescriptor (TMO k).2.2.1 = some (tyMO k) := by decide +kernel
def RAR : String := "java/util/Arrays"
def RLW : String := "ToolChoiceLaw"
abbrev cTC_init : ByteArray := prog_1_method_1_code
def yTC_init : MethodName := ⟨RTC, "<init>", "()V"⟩
abbrev cAK_init : ByteArray := prog_2_method_1_code
def yAK_init : MethodName := ⟨RAK, "<init>", "()V"⟩
abbrev cRO_init : ByteArray := prog_3_method_1_code
def yRO_init : MethodName := ⟨RRO, "<init>", "()V"⟩
abbrev cAR_fill : ByteArray := prog_6_method_103_code
def yAR_fill : MethodName := ⟨RAR, "fill", "([II)V"⟩
abbrev cTC_platform : ByteArray := prog_1_method_2_code
def yTC_platform : MethodName := ⟨RTC, "platform", "(I)I"⟩
abbrev cTC_tool : ByteArray := prog_1_method_3_code
def yTC_tool : MethodName := ⟨RTC, "tool", "(IIII)I"⟩
abbrev cTC_isKind : ByteArray := prog_1_method_17_code
def yTC_isKind : MethodName := ⟨RTC, "isKind", "(I)Z"⟩
abbrev cTC_order : ByteArray := prog_1_method_4_code
def yTC_order : MethodName := ⟨RTC, "order", "(II)Z"⟩
abbrev cTC_isTool : ByteArray := prog_1_method_16_code
def yTC_isTool : MethodName := ⟨RTC, "isTool", "(I)Z"⟩
abbrev cTC_placeOf : ByteArray := prog_1_method_20_code
def yTC_placeOf : MethodName := ⟨RTC, "placeOf", "(I)I"⟩
abbrev cTC_needs : ByteArray := prog_1_method_5_code
def yTC_needs : MethodName := ⟨RTC, "needs", "(II)Z"⟩
abbrev cTC_hasBit : ByteArray := prog_1_method_18_code
def yTC_hasBit : MethodName := ⟨RTC, "hasBit", "(II)Z"⟩
abbrev cTC_ask : ByteArray := prog_1_method_6_code
def yTC_ask : MethodName := ⟨RTC, "ask", "(IIZ)Z"⟩
abbrev cAK_put : ByteArray := prog_2_method_7_code
def yAK_put : MethodName := ⟨RAK, "put", "(IIZ)V"⟩
abbrev cAK_find : ByteArray := prog_2_method_6_code
def yAK_find : MethodName := ⟨RAK, "find", "(I)I"⟩
abbrev cTC_drop : ByteArray := prog_1_method_7_code
def yTC_drop : MethodName := ⟨RTC, "drop", "(I)Z"⟩
abbrev cAK_remove : ByteArray := prog_2_method_8_code
def yAK_remove : MethodName := ⟨RAK, "remove", "(I)Z"⟩
abbrev cTC_force : ByteArray := prog_1_method_8_code
def yTC_force : MethodName := ⟨RTC, "force", "(II)Z"⟩
abbrev cTC_choose : ByteArray := prog_1_method_9_code
def yTC_choose : MethodName := ⟨RTC, "choose", "(I)I"⟩
abbrev cTC_isPlatform : ByteArray := prog_1_method_15_code
def yTC_isPlatform : MethodName := ⟨RTC, "isPlatform", "(I)Z"⟩
abbrev cTC_settleBuilt : ByteArray := prog_1_method_27_code
def yTC_settleBuilt : MethodName := ⟨RTC, "settleBuilt", "()V"⟩
abbrev cTC_platformsHaving : ByteArray := prog_1_method_26_code
def yTC_platformsHaving : MethodName := ⟨RTC, "platformsHaving", "(I)I"⟩
abbrev cTC_growBuilt : ByteArray := prog_1_method_28_code
def yTC_growBuilt : MethodName := ⟨RTC, "growBuilt", "()Z"⟩
abbrev cTC_platformsWithSupplies : ByteArray := prog_1_method_29_code
def yTC_platformsWithSupplies : MethodName := ⟨RTC, "platformsWithSupplies", "(I)I"⟩
abbrev cRO_clear : ByteArray := prog_3_method_2_code
def yRO_clear : MethodName := ⟨RRO, "clear", "()V"⟩
abbrev cTC_takeTools : ByteArray := prog_1_method_21_code
def yTC_takeTools : MethodName := ⟨RTC, "takeTools", "(II)Z"⟩
abbrev cAK_size : ByteArray := prog_2_method_2_code
def yAK_size : MethodName := ⟨RAK, "size", "()I"⟩
abbrev cAK_kindAt : ByteArray := prog_2_method_3_code
def yAK_kindAt : MethodName := ⟨RAK, "kindAt", "(I)I"⟩
abbrev cTC_firstGood : ByteArray := prog_1_method_22_code
def yTC_firstGood : MethodName := ⟨RTC, "firstGood", "(III)I"⟩
abbrev cTC_whyNot : ByteArray := prog_1_method_23_code
def yTC_whyNot : MethodName := ⟨RTC, "whyNot", "(III)I"⟩
abbrev cAK_leastVersion : ByteArray := prog_2_method_4_code
def yAK_leastVersion : MethodName := ⟨RAK, "leastVersion", "(I)I"⟩
abbrev cTC_lackOf : ByteArray := prog_1_method_24_code
def yTC_lackOf : MethodName := ⟨RTC, "lackOf", "(IIII)I"⟩
abbrev cTC_lowestBit : ByteArray := prog_1_method_19_code
def yTC_lowestBit : MethodName := ⟨RTC, "lowestBit", "(I)I"⟩
abbrev cTC_lowestUnsupplied : ByteArray := prog_1_method_25_code
def yTC_lowestUnsupplied : MethodName := ⟨RTC, "lowestUnsupplied", "(II)I"⟩
abbrev cRO_add : ByteArray := prog_3_method_4_code
def yRO_add : MethodName := ⟨RRO, "add", "(IIII)V"⟩
abbrev cAK_isNeeded : ByteArray := prog_2_method_5_code
def yAK_isNeeded : MethodName := ⟨RAK, "isNeeded", "(I)Z"⟩
abbrev cTC_chosen : ByteArray := prog_1_method_10_code
def yTC_chosen : MethodName := ⟨RTC, "chosen", "(I)I"⟩
abbrev cTC_rows : ByteArray := prog_1_method_11_code
def yTC_rows : MethodName := ⟨RTC, "rows", "()I"⟩
abbrev cRO_size : ByteArray := prog_3_method_3_code
def yRO_size : MethodName := ⟨RRO, "size", "()I"⟩
abbrev cTC_row : ByteArray := prog_1_method_12_code
def yTC_row : MethodName := ⟨RTC, "row", "(II)I"⟩
abbrev cRO_cell : ByteArray := prog_3_method_5_code
def yRO_cell : MethodName := ⟨RRO, "cell", "(II)I"⟩
abbrev cTC_built : ByteArray := prog_1_method_13_code
def yTC_built : MethodName := ⟨RTC, "built", "(II)Z"⟩
abbrev cTC_ring : ByteArray := prog_1_method_14_code
def yTC_ring : MethodName := ⟨RTC, "ring", "(I)I"⟩
abbrev cTC_settleLeads : ByteArray := prog_1_method_30_code
def yTC_settleLeads : MethodName := ⟨RTC, "settleLeads", "()V"⟩
abbrev cTC_stepsFrom : ByteArray := prog_1_method_31_code
def yTC_stepsFrom : MethodName := ⟨RTC, "stepsFrom", "(I)I"⟩
abbrev cTC_unbuiltOn : ByteArray := prog_1_method_32_code
def yTC_unbuiltOn : MethodName := ⟨RTC, "unbuiltOn", "(I)I"⟩
abbrev cMO_init : ByteArray := prog_5_method_1_code
def yMO_init : MethodName := ⟨RMO, "<init>", "()V"⟩
abbrev cMO_platform : ByteArray := prog_5_method_6_code
def yMO_platform : MethodName := ⟨RMO, "platform", "(I)I"⟩
abbrev cMO_tool : ByteArray := prog_5_method_7_code
def yMO_tool : MethodName := ⟨RMO, "tool", "(IIII)I"⟩
abbrev cMO_isKind : ByteArray := prog_5_method_5_code
def yMO_isKind : MethodName := ⟨RMO, "isKind", "(I)Z"⟩
abbrev cMO_order : ByteArray := prog_5_method_8_code
def yMO_order : MethodName := ⟨RMO, "order", "(II)Z"⟩
abbrev cMO_isTool : ByteArray := prog_5_method_4_code
def yMO_isTool : MethodName := ⟨RMO, "isTool", "(I)Z"⟩
abbrev cMO_needs : ByteArray := prog_5_method_10_code
def yMO_needs : MethodName := ⟨RMO, "needs", "(II)Z"⟩
abbrev cMO_wants : ByteArray := prog_5_method_9_code
def yMO_wants : MethodName := ⟨RMO, "wants", "(II)Z"⟩
abbrev cMO_ask : ByteArray := prog_5_method_12_code
def yMO_ask : MethodName := ⟨RMO, "ask", "(IIZ)Z"⟩
abbrev cMO_place : ByteArray := prog_5_method_11_code
def yMO_place : MethodName := ⟨RMO, "place", "(I)I"⟩
abbrev cMO_drop : ByteArray := prog_5_method_13_code
def yMO_drop : MethodName := ⟨RMO, "drop", "(I)Z"⟩
abbrev cMO_force : ByteArray := prog_5_method_14_code
def yMO_force : MethodName := ⟨RMO, "force", "(II)Z"⟩
abbrev cMO_built : ByteArray := prog_5_method_22_code
def yMO_built : MethodName := ⟨RMO, "built", "(II)Z"⟩
abbrev cMO_isPlatform : ByteArray := prog_5_method_3_code
def yMO_isPlatform : MethodName := ⟨RMO, "isPlatform", "(I)Z"⟩
abbrev cMO_build : ByteArray := prog_5_method_21_code
def yMO_build : MethodName := ⟨RMO, "build", "()V"⟩
abbrev cMO_at : ByteArray := prog_5_method_18_code
def yMO_at : MethodName := ⟨RMO, "at", "(II)I"⟩
abbrev cMO_runsOn : ByteArray := prog_5_method_16_code
def yMO_runsOn : MethodName := ⟨RMO, "runsOn", "(II)Z"⟩
abbrev cMO_lacking : ByteArray := prog_5_method_15_code
def yMO_lacking : MethodName := ⟨RMO, "lacking", "(II)I"⟩
abbrev cMO_missing : ByteArray := prog_5_method_20_code
def yMO_missing : MethodName := ⟨RMO, "missing", "(II)I"⟩
abbrev cMO_isThere : ByteArray := prog_5_method_19_code
def yMO_isThere : MethodName := ⟨RMO, "isThere", "(II)Z"⟩
abbrev cMO_makesFor : ByteArray := prog_5_method_17_code
def yMO_makesFor : MethodName := ⟨RMO, "makesFor", "(II)Z"⟩
abbrev cMO_choose : ByteArray := prog_5_method_27_code
def yMO_choose : MethodName := ⟨RMO, "choose", "(I)I"⟩
abbrev cMO_tryOn : ByteArray := prog_5_method_26_code
def yMO_tryOn : MethodName := ⟨RMO, "tryOn", "(II)Z"⟩
abbrev cMO_look : ByteArray := prog_5_method_25_code
def yMO_look : MethodName := ⟨RMO, "look", "(III)I"⟩
abbrev cMO_why : ByteArray := prog_5_method_23_code
def yMO_why : MethodName := ⟨RMO, "why", "(III)I"⟩
abbrev cMO_tell : ByteArray := prog_5_method_24_code
def yMO_tell : MethodName := ⟨RMO, "tell", "(IIII)V"⟩
abbrev cMO_chosen : ByteArray := prog_5_method_28_code
def yMO_chosen : MethodName := ⟨RMO, "chosen", "(I)I"⟩
abbrev cMO_rows : ByteArray := prog_5_method_29_code
def yMO_rows : MethodName := ⟨RMO, "rows", "()I"⟩
abbrev cMO_row : ByteArray := prog_5_method_30_code
def yMO_row : MethodName := ⟨RMO, "row", "(II)I"⟩
abbrev cMO_ring : ByteArray := prog_5_method_35_code
def yMO_ring : MethodName := ⟨RMO, "ring", "(I)I"⟩
abbrev cMO_isRing : ByteArray := prog_5_method_34_code
def yMO_isRing : MethodName := ⟨RMO, "isRing", "(I)Z"⟩
abbrev cMO_comesBack : ByteArray := prog_5_method_33_code
def yMO_comesBack : MethodName := ⟨RMO, "comesBack", "(I)Z"⟩
abbrev cMO_isPlace : ByteArray := prog_5_method_32_code
def yMO_isPlace : MethodName := ⟨RMO, "isPlace", "(I)Z"⟩
abbrev cMO_leads : ByteArray := prog_5_method_31_code
def yMO_leads : MethodName := ⟨RMO, "leads", "(II)Z"⟩
abbrev cLW_law : ByteArray := code
abbrev vwCl : List vw_C := [(RAK, TAK, 4), (RRO, TRO, 2), (RTC, TTC, 19), (RMO, TMO, 25)]
def tc_nest : List (String × Nat × MethodName × String) := [(RTC, 43, yAK_init, RTC), (RTC, 56, yRO_init, RTC), (RTC, 97, yAK_put, RTC), (RTC, 101, yAK_remove, RTC), (RTC, 110, yRO_clear, RTC), (RTC, 127, yAK_size, RTC), (RTC, 128, yAK_kindAt, RTC), (RTC, 149, yAK_leastVersion, RTC), (RTC, 145, yRO_add, RTC), (RTC, 135, yAK_isNeeded, RTC), (RTC, 116, yRO_size, RTC), (RTC, 120, yRO_cell, RTC)]
end
section
/-! THE PURE LAYER: a method's walk told over pure cells (tcC), with no machine in the goal. A value: an int, null, or the place of a cell. -/
abbrev tcV : Type := Int32 ⊕ Option Nat
def tc_v (ad : Nat → Nat) (v : tcV) : Value := match v with
  | .inl x => .int x
  | .inr none => .null
  | .inr (some k) => .ref (ad k)
theorem tc_cat (ad : Nat → Nat) (v : tcV) : (tc_v ad v).category = 1 := by
  rcases v with x | (_ | k) <;> rfl
/-- a cell: an array (tag, length, contents: ints or places), or an object (number of its class, fields) -/
abbrev tcC : Type := (Nat × Nat × ((Nat → Int32) ⊕ (Nat → Option Nat))) ⊕ (Nat × List tcV)
def tc_e (ad : Nat → Nat) (tg : Nat → ClassId) (c : tcC) : va_E := match c with
  | .inl (t, n, .inl f) => .inl (tg t, n, .inl f)
  | .inl (t, n, .inr g) => .inl (tg t, n, .inr (.inr (.inr (.inr (fun j => (g j).map ad)))))
  | .inr (ci, fs) => .inr (ci, fs.map (tc_v ad))
def tc_w (ad : Nat → Nat) (tg : Nat → ClassId) (h : List tcC) : va_W := h.mapIdx (fun k c => (ad k, tc_e ad tg c))
theorem tc_w_at {ad : Nat → Nat} {tg : Nat → ClassId} {h : List tcC} {k : Nat} {c : tcC} (hk : h[k]? = some c) : (tc_w ad tg h)[k]? = some (ad k, tc_e ad tg c) := by
  simp [tc_w, List.getElem?_mapIdx, hk]
theorem tc_w_set {ad : Nat → Nat} {tg : Nat → ClassId} {h : List tcC} {k : Nat} {c : tcC} : (tc_w ad tg h).set k (ad k, tc_e ad tg c) = tc_w ad tg (h.set k c) := by
  simp [tc_w, List.mapIdx_set]
/-- places below n -/
def tc_ok (n : Nat) (v : tcV) : Bool := match v with
  | .inr (some k) => decide (k < n)
  | _ => true
def tc_okL (n : Nat) (L : List (Option tcV)) : Bool := L.all (fun o => match o with
  | some v => tc_ok n v
  | none => true)
def tc_okS (n : Nat) (st : List tcV) : Bool := st.all (tc_ok n)
theorem tc_v_ag {n : Nat} {ad ad' : Nat → Nat} (ha : ∀ k, k < n → ad' k = ad k) {v : tcV} (hv : tc_ok n v = true) : tc_v ad' v = tc_v ad v := by
  rcases v with x | (_ | k)
  · rfl
  · rfl
  · show Value.ref (ad' k) = Value.ref (ad k)
    rw [ha k (of_decide_eq_true hv)]
theorem tc_vs_ag {n : Nat} {ad ad' : Nat → Nat} (ha : ∀ k, k < n → ad' k = ad k) {st : List tcV} (hv : tc_okS n st = true) : st.map (tc_v ad') = st.map (tc_v ad) := by
  refine List.map_congr_left (fun v hm => tc_v_ag ha ?_)
  exact List.all_eq_true.mp hv v hm
/-- the tables' words that every method takes along -/
def tc_T : List Cond := lw_tbl.filter goodWord
theorem tc_T_good : ∀ w ∈ tc_T, ((w.onTables && w.keeps) = true ∨ ∃ ty, w = .arrayClass ty) := fun w h => good_of_word (List.mem_filter.mp h).2
theorem tc_in {w : Cond} (h : w ∈ lw_tbl) (hg : goodWord w = true) : w ∈ tc_T := List.mem_filter.mpr ⟨h, hg⟩
theorem tc_goodIn {w : Cond} (h : w ∈ tc_T) : GoodIn tc_T (w :: tc_T) := fun v hv => by
  rcases List.mem_cons.mp hv with rfl | hv
  · exact ⟨h, tc_T_good _ h⟩
  · exact ⟨hv, tc_T_good _ hv⟩
def tc_N (U : State) : Prop := ∀ q ∈ tc_nest, va_Nw (.methodLinkNest q.1 q.2.1 q.2.2.1 q.2.2.2) U
theorem tc_N.warm {s U : State} (hW : s.WarmedH U.vm) (h : tc_N s) : tc_N U := fun q hq => va_Nw.warmM hW (h q hq)
theorem tc_N.same {u U : State} (e : u.vm = U.vm) (h : tc_N u) : tc_N U := fun q hq => va_Nw.same rfl e (h q hq)
def tc_ty (tg : Nat → ClassId) : List (ClassId × FieldType) := [(tg 0, .int), (tg 1, .boolean)]
def tc_U (D : va_G) (tg : Nat → ClassId) (ad : Nat → Nat) (sz : Nat) (h : List tcC) (U : State) : Prop :=
  U.heap.size = sz ∧ va_P D vwCl (tc_w ad tg h) U.heap ∧ va_K D vwCl (tc_ty tg) U ∧ va_D (fun _ => True) (tc_w ad tg h) ∧ tc_N U
/-- what a method is held to: the cells before, its answer, the cells behind, how many cells and slots it may make -/
abbrev tcK : Type := List tcC × Option tcV × List tcC × Nat × Nat
def tc_Q (D : va_G) (tg : Nat → ClassId) (ad0 : Nat → Nat) (sz : Nat) (K : tcK) : Array Value → State → Outcome → State → Prop := fun _ st oc t =>
  ∃ ad : Nat → Nat, (∀ k, k < K.1.length → ad k = ad0 k) ∧ oc = .returned (K.2.1.map (tc_v ad)) ∧ va_P D vwCl (tc_w ad tg K.2.2.1) t.heap ∧ va_D (va_A (tc_w ad0 tg K.1) sz) (tc_w ad tg K.2.2.1) ∧ va_F (va_A (tc_w ad0 tg K.1) sz) st t
def tc_rm (d mc ms : Nat) : Room := { frames := d, cells := mc, slots := ms, locals := 32 * d }
/-- a method's contract: from the cells K.1 with these arguments it returns K.2.1, and the cells are K.2.2.1 -/
def tc_M (y : MethodName) (cc : ByteArray) (nL : Nat) (ret : Option FieldType) (d : Nat) (As : List tcV) (K : tcK) : Prop :=
  K.1.length ≤ K.2.2.1.length ∧ ∀ (l : Launch) (D : va_G) (tg : Nat → ClassId) (ad : Nat → Nat) (sz : Nat), Met l y (.code y cc nL ret :: tc_T) (tc_rm d K.2.2.2.1 K.2.2.2.2) (va_Pc (As.map (tc_v ad)) (tc_U D tg ad sz K.1)) (tc_Q D tg ad sz K) K.2.2.2.1 K.2.2.2.2 (va_A (tc_w ad tg K.1) sz)
/-- a method's own data: code, locals, class, type of its answer, depth, name -/
abbrev tcM : Type := ByteArray × Nat × String × Option FieldType × Nat × String
def tc_B (M : tcM) (p : Program) (s : State) (m : MethodId) (args : Array Value) (meth : Method) (c : Code) (D : va_G) (tg : Nat → ClassId) : Prop :=
  p.tables.exec = Jvm.exec ∧ c.code = M.1 ∧ c.maxLocals = M.2.1 ∧ s.vm.findClass M.2.2.1 = some m.cls ∧ (∀ w ∈ tc_T, w.before args s = true) ∧ va_K D vwCl (tc_ty tg) s ∧ tc_N s ∧ meth.sig.returnType = M.2.2.2.1 ∧ meth.locks = false ∧ meth.name = M.2.2.2.2.2
def tc_L (ad : Nat → Nat) (ls : Array Slot) (nL : Nat) (L : List (Option tcV)) : Prop := ls.size = nL ∧ lv_wf ls ∧ ∀ (i : Nat) (v : tcV), L[i]? = some (some v) → ls[i]? = some (.val (tc_v ad v))
theorem tc_L_ag {n : Nat} {ad ad' : Nat → Nat} (ha : ∀ k, k < n → ad' k = ad k) {L : List (Option tcV)} (hv : tc_okL n L = true) {ls : Array Slot} {nL : Nat} (h : tc_L ad ls nL L) : tc_L ad' ls nL L := by
  refine ⟨h.1, h.2.1, fun i v hi => ?_⟩
  have h1 := List.all_eq_true.mp hv _ (List.mem_of_getElem? hi)
  rw [tc_v_ag ha h1]
  exact h.2.2 i v hi
/-- THE JUDGEMENT: from these cells, at pc, with these locals and this stack, cc cells of ss slots being made, the method comes to what K asks -/
def tc_V (M : tcM) (K : tcK) (nc ns : Nat) (h : List tcC) (pc : Nat) (L : List (Option tcV)) (st : List tcV) : Prop :=
  ∀ (l : Launch) (p : Program) (e : Env) (s : State) (m : MethodId) (args : Array Value) (below : List Frame) (meth : Method) (c : Code) (D : va_G) (tg : Nat → ClassId) (ad0 ad : Nat → Nat), tc_B M p s m args meth c D tg →
  (K.1.length ≤ h.length ∧ ∀ k, k < K.1.length → ad k = ad0 k) →
  ∀ (H : Heap) (locs : List Loc) (ls : Array Slot), va_P D vwCl (tc_w ad tg h) H → va_D (va_A (tc_w ad0 tg K.1) s.heap.size) (tc_w ad tg h) → va_S (va_A (tc_w ad0 tg K.1) s.heap.size) s.heap H locs → tc_L ad ls M.2.1 L →
  W p l e (tc_rm M.2.2.2.2.1 K.2.2.2.1 K.2.2.2.2) s m args below meth c H locs nc ns (MQ below (tc_Q D tg ad0 s.heap.size K) args s K.2.2.2.1 K.2.2.2.2 (va_A (tc_w ad0 tg K.1) s.heap.size)) (F0 m pc ls (st.map (tc_v ad)))
/-! the locals -/
theorem tc_lg (ad : Nat → Nat) : ∀ (vs : List tcV), (lg_sl (vs.map (tc_v ad))).length = vs.length
  | [] => rfl
  | v :: vs => by
    have ih := tc_lg ad vs
    simp only [lg_sl, List.map_cons, List.flatMap_cons, tc_cat] at ih ⊢
    simp [ih]
theorem tc_arg (ad : Nat → Nat) : ∀ (vs : List tcV) (k i : Nat) (v : tcV), vs[i]? = some v → (k + i, tc_v ad v) ∈ lv_args k (vs.map (tc_v ad))
  | [], k, i, v, h => by simp at h
  | w :: vs, k, i, v, h => by
    simp only [List.map_cons, lv_args, tc_cat]
    cases i with
    | zero =>
      simp at h
      subst h
      exact List.mem_cons_self
    | succ i =>
      have h1 := tc_arg ad vs (k + 1) i v (by simpa using h)
      refine List.mem_cons_of_mem _ ?_
      have e : k + (i + 1) = k + 1 + i := by omega
      rw [e]
      simpa using h1
def tc_ll (ad : Nat → Nat) (L : List (Option tcV)) : List (Nat × Value) := (List.range L.length).filterMap (fun i => match L[i]? with
  | some (some v) => some (i, tc_v ad v)
  | _ => none)
theorem tc_ll_in {ad : Nat → Nat} {L : List (Option tcV)} {i : Nat} {v : tcV} (h : L[i]? = some (some v)) : (i, tc_v ad v) ∈ tc_ll ad L := by
  refine List.mem_filterMap.mpr ⟨i, List.mem_range.mpr (List.getElem?_eq_some_iff.mp h).1, ?_⟩
  rw [h]
theorem tc_ll_has {ad : Nat → Nat} {ls : Array Slot} {nL : Nat} {L : List (Option tcV)} (h : tc_L ad ls nL L) : lv_has ls nL (tc_ll ad L) := by
  refine ⟨h.1, h.2.1, fun q hq => ?_⟩
  obtain ⟨i, -, hi⟩ := List.mem_filterMap.mp hq
  split at hi
  · rename_i v hv
    cases hi
    exact h.2.2 i v hv
  · cases hi
theorem tc_L_set {ad : Nat → Nat} {ls : Array Slot} {nL i : Nat} {L : List (Option tcV)} {w : tcV} (h : lv_has ls nL ((i, tc_v ad w) :: (tc_ll ad L).filter (fun q => !(q.1 == i) && !(q.1 + 1 == i && q.2.category == 2)))) : tc_L ad ls nL (L.set i (some w)) := by
  refine ⟨h.1, h.2.1, fun j v hj => ?_⟩
  by_cases hji : j = i
  · subst hji
    have hlt : j < L.length := by
      have := (List.getElem?_eq_some_iff.mp hj).1
      simpa using this
    rw [List.getElem?_set_self hlt] at hj
    cases hj
    exact h.2.2 _ List.mem_cons_self
  · rw [List.getElem?_set_ne (fun q => hji q.symm)] at hj
    refine h.2.2 (j, tc_v ad v) (List.mem_cons_of_mem _ (List.mem_filter.mpr ⟨tc_ll_in hj, ?_⟩))
    simp [hji, tc_cat]
theorem tc_met {y : MethodName} {cc : ByteArray} {nL : Nat} {ret : Option FieldType} {d : Nat} {As : List tcV} {K : tcK} {L : List (Option tcV)} (hy : plainName y.cls = true) (hn : As.length ≤ nL) (hlen : K.1.length ≤ K.2.2.1.length) (hLe : As.map some ++ List.replicate (nL - As.length) none = L)
    (k : tc_V (cc, nL, y.cls, ret, d, y.name) K 0 0 K.1 0 L []) : tc_M y cc nL ret d As K := by
  refine ⟨hlen, ?_⟩
  intro l D tg ad sz
  refine Met.ofW (cc := cc) (maxL := nL) (ret := ret) hy rfl ?_
  intro p e s m args below meth c s₁ B hml hv
  obtain ⟨rfl, hsz, hP, hK, hD0, hN⟩ := hv
  subst hsz
  have hl := lv_entry (As.map (tc_v ad)) (n := nL) (by rw [tc_lg]; exact hn)
  rw [lg_entry_eq]
  refine k l p e s m _ below meth c D tg ad ad ⟨B.exec, B.bytes, hml, findClass_of_methodNamed B.named, fun w hw => atoms_spec (ws := .code y cc nL ret :: tc_T) B.pre w (List.mem_cons_of_mem _ hw), hK, hN, B.returns, B.notSynchronized, (name_of_methodNamed B.named B.method).1⟩ ⟨Nat.le_refl _, fun _ _ => rfl⟩ s.heap [] _ hP hD0.self va_S.rf ⟨hl.1, hl.2.1, fun i v hi => ?_⟩
  subst hLe
  have h2 : As[i]? = some v := by
    by_cases hlt : i < As.length
    · rw [List.getElem?_append_left (by simpa using hlt)] at hi
      simpa using hi
    · rw [List.getElem?_append_right (by simpa using Nat.not_lt.mp hlt)] at hi
      rw [List.getElem?_replicate] at hi
      split at hi <;> cases hi
  have h3 := tc_arg ad As 0 i v h2
  rw [Nat.zero_add] at h3
  exact hl.2.2 _ h3
section TV
variable {M : tcM} {K : tcK} {nc ns : Nat} {h : List tcC} {pc : Nat} {L : List (Option tcV)} {st : List tcV}
theorem tv_iconst {n : Int} {v : Int32} (hd : decode M.1 pc = .ok (.iconst n, 1)) (hv : Int32.ofInt n = v) (k : tc_V M K nc ns h (pc + 1) L (.inl v :: st)) : tc_V M K nc ns h pc L (st) := by
  intro l p e s m args below meth c D tg ad0 ad B hG H locs ls hP hD hS hL
  exact lv_iconst B.1 B.2.1 hd hv (k l p e s m args below meth c D tg ad0 ad B hG H locs ls hP hD hS hL)
theorem tv_bipush {n : Int} {v : Int32} (hd : decode M.1 pc = .ok (.bipush n, 2)) (hv : (Int8.ofInt n).toInt32 = v) (k : tc_V M K nc ns h (pc + 2) L (.inl v :: st)) : tc_V M K nc ns h pc L (st) := by
  intro l p e s m args below meth c D tg ad0 ad B hG H locs ls hP hD hS hL
  exact lv_bipush B.1 B.2.1 hd hv (k l p e s m args below meth c D tg ad0 ad B hG H locs ls hP hD hS hL)
theorem tv_sipush {n : Int} {v : Int32} (hd : decode M.1 pc = .ok (.sipush n, 3)) (hv : (Int16.ofInt n).toInt32 = v) (k : tc_V M K nc ns h (pc + 3) L (.inl v :: st)) : tc_V M K nc ns h pc L (st) := by
  intro l p e s m args below meth c D tg ad0 ad B hG H locs ls hP hD hS hL
  exact lv_sipush B.1 B.2.1 hd hv (k l p e s m args below meth c D tg ad0 ad B hG H locs ls hP hD hS hL)
theorem tv_iload_n {k : Fin 4} {i : Nat} {x : Int32} (hd : decode M.1 pc = .ok (.iload_n k, 1)) (hi : (k : Nat) = i) (hl : L[i]? = some (some (.inl x))) (k : tc_V M K nc ns h (pc + 1) L (.inl x :: st)) : tc_V M K nc ns h pc L st := by
  intro l p e s m args below meth c D tg ad0 ad B hG H locs ls hP hD hS hL
  exact lv_iload_n B.1 B.2.1 hd hi (hL.2.2 i _ hl) (k l p e s m args below meth c D tg ad0 ad B hG H locs ls hP hD hS hL)
theorem tv_iload  {i : Nat} {x : Int32} (hd : decode M.1 pc = .ok (.iload i, 2)) (hl : L[i]? = some (some (.inl x))) (k : tc_V M K nc ns h (pc + 2) L (.inl x :: st)) : tc_V M K nc ns h pc L st := by
  intro l p e s m args below meth c D tg ad0 ad B hG H locs ls hP hD hS hL
  exact lv_iload B.1 B.2.1 hd (hL.2.2 i _ hl) (k l p e s m args below meth c D tg ad0 ad B hG H locs ls hP hD hS hL)
theorem tv_aload_n {k : Fin 4} {i x : Nat} (hd : decode M.1 pc = .ok (.aload_n k, 1)) (hi : (k : Nat) = i) (hl : L[i]? = some (some (.inr (some x)))) (k : tc_V M K nc ns h (pc + 1) L (.inr (some x) :: st)) : tc_V M K nc ns h pc L st := by
  intro l p e s m args below meth c D tg ad0 ad B hG H locs ls hP hD hS hL
  exact lv_aload_n B.1 B.2.1 hd hi (hL.2.2 i _ hl) (k l p e s m args below meth c D tg ad0 ad B hG H locs ls hP hD hS hL)
theorem tv_aload  {i x : Nat} (hd : decode M.1 pc = .ok (.aload i, 2)) (hl : L[i]? = some (some (.inr (some x)))) (k : tc_V M K nc ns h (pc + 2) L (.inr (some x) :: st)) : tc_V M K nc ns h pc L st := by
  intro l p e s m args below meth c D tg ad0 ad B hG H locs ls hP hD hS hL
  exact lv_aload B.1 B.2.1 hd (hL.2.2 i _ hl) (k l p e s m args below meth c D tg ad0 ad B hG H locs ls hP hD hS hL)
theorem tv_istore_n {k : Fin 4} {x : Int32} {i : Nat} {L' : List (Option tcV)} (hd : decode M.1 pc = .ok (.istore_n k, 1)) (hi : (k : Nat) = i) (hn : i < M.2.1) (hl : L.set i (some (.inl x)) = L') (k : tc_V M K nc ns h (pc + 1) L' st) : tc_V M K nc ns h pc L (.inl x :: st) := by
  intro l p e s m args below meth c D tg ad0 ad B hG H locs ls hP hD hS hL
  refine lv_istore_n B.1 B.2.1 hd hi (tc_ll_has hL) hn rfl (fun ls' h' => ?_)
  subst hl
  exact k l p e s m args below meth c D tg ad0 ad B hG H locs ls' hP hD hS (tc_L_set (w := .inl x) h')
theorem tv_istore {x : Int32} {i : Nat} {L' : List (Option tcV)} (hd : decode M.1 pc = .ok (.istore i, 2)) (hn : i < M.2.1) (hl : L.set i (some (.inl x)) = L') (k : tc_V M K nc ns h (pc + 2) L' st) : tc_V M K nc ns h pc L (.inl x :: st) := by
  intro l p e s m args below meth c D tg ad0 ad B hG H locs ls hP hD hS hL
  refine lv_istore B.1 B.2.1 hd (tc_ll_has hL) hn rfl (fun ls' h' => ?_)
  subst hl
  exact k l p e s m args below meth c D tg ad0 ad B hG H locs ls' hP hD hS (tc_L_set (w := .inl x) h')
theorem tv_astore_n {k : Fin 4} {x : Nat} {i : Nat} {L' : List (Option tcV)} (hd : decode M.1 pc = .ok (.astore_n k, 1)) (hi : (k : Nat) = i) (hn : i < M.2.1) (hl : L.set i (some (.inr (some x))) = L') (k : tc_V M K nc ns h (pc + 1) L' st) : tc_V M K nc ns h pc L (.inr (some x) :: st) := by
  intro l p e s m args below meth c D tg ad0 ad B hG H locs ls hP hD hS hL
  refine lv_astore_n B.1 B.2.1 hd hi (tc_ll_has hL) hn rfl (fun ls' h' => ?_)
  subst hl
  exact k l p e s m args below meth c D tg ad0 ad B hG H locs ls' hP hD hS (tc_L_set (w := .inr (some x)) h')
theorem tv_astore {x : Nat} {i : Nat} {L' : List (Option tcV)} (hd : decode M.1 pc = .ok (.astore i, 2)) (hn : i < M.2.1) (hl : L.set i (some (.inr (some x))) = L') (k : tc_V M K nc ns h (pc + 2) L' st) : tc_V M K nc ns h pc L (.inr (some x) :: st) := by
  intro l p e s m args below meth c D tg ad0 ad B hG H locs ls hP hD hS hL
  refine lv_astore B.1 B.2.1 hd (tc_ll_has hL) hn rfl (fun ls' h' => ?_)
  subst hl
  exact k l p e s m args below meth c D tg ad0 ad B hG H locs ls' hP hD hS (tc_L_set (w := .inr (some x)) h')
theorem tv_iinc {i : Nat} {n : Int} {x v : Int32} {L' : List (Option tcV)} (hd : decode M.1 pc = .ok (.iinc i n, 3)) (hx : L[i]? = some (some (.inl x))) (hv : x + Int32.ofInt n = v) (hn : i < M.2.1) (hl : L.set i (some (.inl v)) = L') (k : tc_V M K nc ns h (pc + 3) L' st) : tc_V M K nc ns h pc L st := by
  intro l p e s m args below meth c D tg ad0 ad B hG H locs ls hP hD hS hL
  obtain ⟨j, hj⟩ := List.getElem?_of_mem (tc_ll_in (ad := ad) hx)
  refine lv_iinc (k := j) B.1 B.2.1 hd (tc_ll_has hL) hj hv hn rfl (fun ls' h' => ?_)
  subst hl
  exact k l p e s m args below meth c D tg ad0 ad B hG H locs ls' hP hD hS (tc_L_set (w := .inl v) h')
theorem tv_iadd {x y : Int32} (hd : decode M.1 pc = .ok (.iadd, 1)) (k : tc_V M K nc ns h (pc + 1) L (.inl (x + y) :: st)) : tc_V M K nc ns h pc L (.inl y :: .inl x :: st) := by
  intro l p e s m args below meth c D tg ad0 ad B hG H locs ls hP hD hS hL
  exact lv_iadd B.1 B.2.1 hd (k l p e s m args below meth c D tg ad0 ad B hG H locs ls hP hD hS hL)
theorem tv_isub {x y : Int32} (hd : decode M.1 pc = .ok (.isub, 1)) (k : tc_V M K nc ns h (pc + 1) L (.inl (x - y) :: st)) : tc_V M K nc ns h pc L (.inl y :: .inl x :: st) := by
  intro l p e s m args below meth c D tg ad0 ad B hG H locs ls hP hD hS hL
  exact lv_isub B.1 B.2.1 hd (k l p e s m args below meth c D tg ad0 ad B hG H locs ls hP hD hS hL)
theorem tv_imul {x y : Int32} (hd : decode M.1 pc = .ok (.imul, 1)) (k : tc_V M K nc ns h (pc + 1) L (.inl (x * y) :: st)) : tc_V M K nc ns h pc L (.inl y :: .inl x :: st) := by
  intro l p e s m args below meth c D tg ad0 ad B hG H locs ls hP hD hS hL
  exact lv_imul B.1 B.2.1 hd (k l p e s m args below meth c D tg ad0 ad B hG H locs ls hP hD hS hL)
theorem tv_iand {x y : Int32} (hd : decode M.1 pc = .ok (.iand, 1)) (k : tc_V M K nc ns h (pc + 1) L (.inl (x &&& y) :: st)) : tc_V M K nc ns h pc L (.inl y :: .inl x :: st) := by
  intro l p e s m args below meth c D tg ad0 ad B hG H locs ls hP hD hS hL
  exact lv_iand B.1 B.2.1 hd (k l p e s m args below meth c D tg ad0 ad B hG H locs ls hP hD hS hL)
theorem tv_ior {x y : Int32} (hd : decode M.1 pc = .ok (.ior, 1)) (k : tc_V M K nc ns h (pc + 1) L (.inl (x ||| y) :: st)) : tc_V M K nc ns h pc L (.inl y :: .inl x :: st) := by
  intro l p e s m args below meth c D tg ad0 ad B hG H locs ls hP hD hS hL
  exact lv_ior B.1 B.2.1 hd (k l p e s m args below meth c D tg ad0 ad B hG H locs ls hP hD hS hL)
theorem tv_ixor {x y : Int32} (hd : decode M.1 pc = .ok (.ixor, 1)) (k : tc_V M K nc ns h (pc + 1) L (.inl (x ^^^ y) :: st)) : tc_V M K nc ns h pc L (.inl y :: .inl x :: st) := by
  intro l p e s m args below meth c D tg ad0 ad B hG H locs ls hP hD hS hL
  exact lv_ixor B.1 B.2.1 hd (k l p e s m args below meth c D tg ad0 ad B hG H locs ls hP hD hS hL)
theorem tv_ishl {x y : Int32} (hd : decode M.1 pc = .ok (.ishl, 1)) (k : tc_V M K nc ns h (pc + 1) L (.inl (x <<< (y &&& 31)) :: st)) : tc_V M K nc ns h pc L (.inl y :: .inl x :: st) := by
  intro l p e s m args below meth c D tg ad0 ad B hG H locs ls hP hD hS hL
  exact lv_ishl B.1 B.2.1 hd (k l p e s m args below meth c D tg ad0 ad B hG H locs ls hP hD hS hL)
theorem tv_ishr {x y : Int32} (hd : decode M.1 pc = .ok (.ishr, 1)) (k : tc_V M K nc ns h (pc + 1) L (.inl (x >>> (y &&& 31)) :: st)) : tc_V M K nc ns h pc L (.inl y :: .inl x :: st) := by
  intro l p e s m args below meth c D tg ad0 ad B hG H locs ls hP hD hS hL
  exact lv_ishr B.1 B.2.1 hd (k l p e s m args below meth c D tg ad0 ad B hG H locs ls hP hD hS hL)
theorem tv_ineg {x : Int32} (hd : decode M.1 pc = .ok (.ineg, 1)) (k : tc_V M K nc ns h (pc + 1) L (.inl (-x) :: st)) : tc_V M K nc ns h pc L (.inl x :: st) := by
  intro l p e s m args below meth c D tg ad0 ad B hG H locs ls hP hD hS hL
  exact lv_ineg B.1 B.2.1 hd (k l p e s m args below meth c D tg ad0 ad B hG H locs ls hP hD hS hL)
theorem tv_iushr {x y : Int32} (hd : decode M.1 pc = .ok (.iushr, 1)) (k : tc_V M K nc ns h (pc + 1) L (.inl ((x.toUInt32 >>> (y.toUInt32 &&& Int32.toUInt32 31)).toInt32) :: st)) : tc_V M K nc ns h pc L (.inl y :: .inl x :: st) := by
  intro l p e s m args below meth c D tg ad0 ad B hG H locs ls hP hD hS hL
  exact lv_iushr B.1 B.2.1 hd rfl (k l p e s m args below meth c D tg ad0 ad B hG H locs ls hP hD hS hL)
theorem tv_dup {a : tcV} (hd : decode M.1 pc = .ok (.dup, 1)) (k : tc_V M K nc ns h (pc + 1) L (a :: a :: st)) : tc_V M K nc ns h pc L (a :: st) := by
  intro l p e s m args below meth c D tg ad0 ad B hG H locs ls hP hD hS hL
  exact lv_dup B.1 B.2.1 hd (tc_cat ad a) (k l p e s m args below meth c D tg ad0 ad B hG H locs ls hP hD hS hL)
theorem tv_pop {a : tcV} (hd : decode M.1 pc = .ok (.pop, 1)) (k : tc_V M K nc ns h (pc + 1) L (st)) : tc_V M K nc ns h pc L (a :: st) := by
  intro l p e s m args below meth c D tg ad0 ad B hG H locs ls hP hD hS hL
  exact lv_pop B.1 B.2.1 hd (tc_cat ad a) (k l p e s m args below meth c D tg ad0 ad B hG H locs ls hP hD hS hL)
theorem tv_dup2 {a b : tcV} (hd : decode M.1 pc = .ok (.dup2, 1)) (k : tc_V M K nc ns h (pc + 1) L (a :: b :: a :: b :: st)) : tc_V M K nc ns h pc L (a :: b :: st) := by
  intro l p e s m args below meth c D tg ad0 ad B hG H locs ls hP hD hS hL
  exact lv_dup2_11 B.1 B.2.1 hd (tc_cat ad a) (tc_cat ad b) (k l p e s m args below meth c D tg ad0 ad B hG H locs ls hP hD hS hL)
theorem tv_dup_x1 {a b : tcV} (hd : decode M.1 pc = .ok (.dup_x1, 1)) (k : tc_V M K nc ns h (pc + 1) L (a :: b :: a :: st)) : tc_V M K nc ns h pc L (a :: b :: st) := by
  intro l p e s m args below meth c D tg ad0 ad B hG H locs ls hP hD hS hL
  exact lv_dup_x1 B.1 B.2.1 hd (tc_cat ad a) (tc_cat ad b) (k l p e s m args below meth c D tg ad0 ad B hG H locs ls hP hD hS hL)
theorem tv_if_eq {x : Int32} {off : Int} {tgt : Nat} (hd : decode M.1 pc = .ok (.ifCond .eq off, 3)) (ht : (pc : Int) + off = (tgt : Int)) (kt : x = 0 → tc_V M K nc ns h tgt L st) (kf : ¬ x = 0 → tc_V M K nc ns h (pc + 3) L st) : tc_V M K nc ns h pc L (.inl x :: st) := by
  intro l p e s m args below meth c D tg ad0 ad B hG H locs ls hP hD hS hL
  exact lv_if_eq B.1 B.2.1 hd ht (fun z => kt z l p e s m args below meth c D tg ad0 ad B hG H locs ls hP hD hS hL) (fun z => kf z l p e s m args below meth c D tg ad0 ad B hG H locs ls hP hD hS hL)
theorem tv_icmp_eq {x y : Int32} {off : Int} {tgt : Nat} (hd : decode M.1 pc = .ok (.if_icmp .eq off, 3)) (ht : (pc : Int) + off = (tgt : Int)) (kt : x = y → tc_V M K nc ns h tgt L st) (kf : ¬ x = y → tc_V M K nc ns h (pc + 3) L st) : tc_V M K nc ns h pc L (.inl y :: .inl x :: st) := by
  intro l p e s m args below meth c D tg ad0 ad B hG H locs ls hP hD hS hL
  exact lv_icmp_eq B.1 B.2.1 hd ht (fun z => kt z l p e s m args below meth c D tg ad0 ad B hG H locs ls hP hD hS hL) (fun z => kf z l p e s m args below meth c D tg ad0 ad B hG H locs ls hP hD hS hL)
theorem tv_if_ne {x : Int32} {off : Int} {tgt : Nat} (hd : decode M.1 pc = .ok (.ifCond .ne off, 3)) (ht : (pc : Int) + off = (tgt : Int)) (kt : ¬ x = 0 → tc_V M K nc ns h tgt L st) (kf : x = 0 → tc_V M K nc ns h (pc + 3) L st) : tc_V M K nc ns h pc L (.inl x :: st) := by
  intro l p e s m args below meth c D tg ad0 ad B hG H locs ls hP hD hS hL
  exact lv_if_ne B.1 B.2.1 hd ht (fun z => kt z l p e s m args below meth c D tg ad0 ad B hG H locs ls hP hD hS hL) (fun z => kf z l p e s m args below meth c D tg ad0 ad B hG H locs ls hP hD hS hL)
theorem tv_icmp_ne {x y : Int32} {off : Int} {tgt : Nat} (hd : decode M.1 pc = .ok (.if_icmp .ne off, 3)) (ht : (pc : Int) + off = (tgt : Int)) (kt : ¬ x = y → tc_V M K nc ns h tgt L st) (kf : x = y → tc_V M K nc ns h (pc + 3) L st) : tc_V M K nc ns h pc L (.inl y :: .inl x :: st) := by
  intro l p e s m args below meth c D tg ad0 ad B hG H locs ls hP hD hS hL
  exact lv_icmp_ne B.1 B.2.1 hd ht (fun z => kt z l p e s m args below meth c D tg ad0 ad B hG H locs ls hP hD hS hL) (fun z => kf z l p e s m args below meth c D tg ad0 ad B hG H locs ls hP hD hS hL)
theorem tv_if_lt {x : Int32} {off : Int} {tgt : Nat} (hd : decode M.1 pc = .ok (.ifCond .lt off, 3)) (ht : (pc : Int) + off = (tgt : Int)) (kt : x < 0 → tc_V M K nc ns h tgt L st) (kf : ¬ x < 0 → tc_V M K nc ns h (pc + 3) L st) : tc_V M K nc ns h pc L (.inl x :: st) := by
  intro l p e s m args below meth c D tg ad0 ad B hG H locs ls hP hD hS hL
  exact lv_if_lt B.1 B.2.1 hd ht (fun z => kt z l p e s m args below meth c D tg ad0 ad B hG H locs ls hP hD hS hL) (fun z => kf z l p e s m args below meth c D tg ad0 ad B hG H locs ls hP hD hS hL)
theorem tv_icmp_lt {x y : Int32} {off : Int} {tgt : Nat} (hd : decode M.1 pc = .ok (.if_icmp .lt off, 3)) (ht : (pc : Int) + off = (tgt : Int)) (kt : x < y → tc_V M K nc ns h tgt L st) (kf : ¬ x < y → tc_V M K nc ns h (pc + 3) L st) : tc_V M K nc ns h pc L (.inl y :: .inl x :: st) := by
  intro l p e s m args below meth c D tg ad0 ad B hG H locs ls hP hD hS hL
  exact lv_icmp_lt B.1 B.2.1 hd ht (fun z => kt z l p e s m args below meth c D tg ad0 ad B hG H locs ls hP hD hS hL) (fun z => kf z l p e s m args below meth c D tg ad0 ad B hG H locs ls hP hD hS hL)
theorem tv_if_ge {x : Int32} {off : Int} {tgt : Nat} (hd : decode M.1 pc = .ok (.ifCond .ge off, 3)) (ht : (pc : Int) + off = (tgt : Int)) (kt : 0 ≤ x → tc_V M K nc ns h tgt L st) (kf : ¬ 0 ≤ x → tc_V M K nc ns h (pc + 3) L st) : tc_V M K nc ns h pc L (.inl x :: st) := by
  intro l p e s m args below meth c D tg ad0 ad B hG H locs ls hP hD hS hL
  exact lv_if_ge B.1 B.2.1 hd ht (fun z => kt z l p e s m args below meth c D tg ad0 ad B hG H locs ls hP hD hS hL) (fun z => kf z l p e s m args below meth c D tg ad0 ad B hG H locs ls hP hD hS hL)
theorem tv_icmp_ge {x y : Int32} {off : Int} {tgt : Nat} (hd : decode M.1 pc = .ok (.if_icmp .ge off, 3)) (ht : (pc : Int) + off = (tgt : Int)) (kt : y ≤ x → tc_V M K nc ns h tgt L st) (kf : ¬ y ≤ x → tc_V M K nc ns h (pc + 3) L st) : tc_V M K nc ns h pc L (.inl y :: .inl x :: st) := by
  intro l p e s m args below meth c D tg ad0 ad B hG H locs ls hP hD hS hL
  exact lv_icmp_ge B.1 B.2.1 hd ht (fun z => kt z l p e s m args below meth c D tg ad0 ad B hG H locs ls hP hD hS hL) (fun z => kf z l p e s m args below meth c D tg ad0 ad B hG H locs ls hP hD hS hL)
theorem tv_if_gt {x : Int32} {off : Int} {tgt : Nat} (hd : decode M.1 pc = .ok (.ifCond .gt off, 3)) (ht : (pc : Int) + off = (tgt : Int)) (kt : 0 < x → tc_V M K nc ns h tgt L st) (kf : ¬ 0 < x → tc_V M K nc ns h (pc + 3) L st) : tc_V M K nc ns h pc L (.inl x :: st) := by
  intro l p e s m args below meth c D tg ad0 ad B hG H locs ls hP hD hS hL
  exact lv_if_gt B.1 B.2.1 hd ht (fun z => kt z l p e s m args below meth c D tg ad0 ad B hG H locs ls hP hD hS hL) (fun z => kf z l p e s m args below meth c D tg ad0 ad B hG H locs ls hP hD hS hL)
theorem tv_icmp_gt {x y : Int32} {off : Int} {tgt : Nat} (hd : decode M.1 pc = .ok (.if_icmp .gt off, 3)) (ht : (pc : Int) + off = (tgt : Int)) (kt : y < x → tc_V M K nc ns h tgt L st) (kf : ¬ y < x → tc_V M K nc ns h (pc + 3) L st) : tc_V M K nc ns h pc L (.inl y :: .inl x :: st) := by
  intro l p e s m args below meth c D tg ad0 ad B hG H locs ls hP hD hS hL
  exact lv_icmp_gt B.1 B.2.1 hd ht (fun z => kt z l p e s m args below meth c D tg ad0 ad B hG H locs ls hP hD hS hL) (fun z => kf z l p e s m args below meth c D tg ad0 ad B hG H locs ls hP hD hS hL)
theorem tv_if_le {x : Int32} {off : Int} {tgt : Nat} (hd : decode M.1 pc = .ok (.ifCond .le off, 3)) (ht : (pc : Int) + off = (tgt : Int)) (kt : x ≤ 0 → tc_V M K nc ns h tgt L st) (kf : ¬ x ≤ 0 → tc_V M K nc ns h (pc + 3) L st) : tc_V M K nc ns h pc L (.inl x :: st) := by
  intro l p e s m args below meth c D tg ad0 ad B hG H locs ls hP hD hS hL
  exact lv_if_le B.1 B.2.1 hd ht (fun z => kt z l p e s m args below meth c D tg ad0 ad B hG H locs ls hP hD hS hL) (fun z => kf z l p e s m args below meth c D tg ad0 ad B hG H locs ls hP hD hS hL)
theorem tv_icmp_le {x y : Int32} {off : Int} {tgt : Nat} (hd : decode M.1 pc = .ok (.if_icmp .le off, 3)) (ht : (pc : Int) + off = (tgt : Int)) (kt : x ≤ y → tc_V M K nc ns h tgt L st) (kf : ¬ x ≤ y → tc_V M K nc ns h (pc + 3) L st) : tc_V M K nc ns h pc L (.inl y :: .inl x :: st) := by
  intro l p e s m args below meth c D tg ad0 ad B hG H locs ls hP hD hS hL
  exact lv_icmp_le B.1 B.2.1 hd ht (fun z => kt z l p e s m args below meth c D tg ad0 ad B hG H locs ls hP hD hS hL) (fun z => kf z l p e s m args below meth c D tg ad0 ad B hG H locs ls hP hD hS hL)
theorem tv_goto {off : Int} {tgt : Nat} (hd : decode M.1 pc = .ok (.goto off, 3)) (ht : (pc : Int) + off = (tgt : Int)) (k : tc_V M K nc ns h tgt L st) : tc_V M K nc ns h pc L st := by
  intro l p e s m args below meth c D tg ad0 ad B hG H locs ls hP hD hS hL
  exact lv_goto B.1 B.2.1 hd ht (k l p e s m args below meth c D tg ad0 ad B hG H locs ls hP hD hS hL)
theorem tv_tabOut {dflt lo hi : Int} {offs : Array Int} {len : Nat} {x : Int32} {tgt : Nat} (hd : decode M.1 pc = .ok (.tableswitch dflt lo hi offs, len)) (hx : x.toInt < lo ∨ hi < x.toInt) (ht : (pc : Int) + dflt = (tgt : Int)) (k : tc_V M K nc ns h tgt L st) : tc_V M K nc ns h pc L (.inl x :: st) := by
  intro l p e s m args below meth c D tg ad0 ad B hG H locs ls hP hD hS hL
  exact lv_tableOut B.1 B.2.1 hd hx ht (k l p e s m args below meth c D tg ad0 ad B hG H locs ls hP hD hS hL)
theorem tv_tabIn {dflt lo hi : Int} {offs : Array Int} {len : Nat} {x : Int32} {off : Int} {tgt : Nat} (hd : decode M.1 pc = .ok (.tableswitch dflt lo hi offs, len)) (h1 : ¬ x.toInt < lo) (h2 : ¬ hi < x.toInt) (ho : offs[(x.toInt - lo).toNat]? = some off) (ht : (pc : Int) + off = (tgt : Int)) (k : tc_V M K nc ns h tgt L st) : tc_V M K nc ns h pc L (.inl x :: st) := by
  intro l p e s m args below meth c D tg ad0 ad B hG H locs ls hP hD hS hL
  exact lv_tableIn B.1 B.2.1 hd h1 h2 ho ht (k l p e s m args below meth c D tg ad0 ad B hG H locs ls hP hD hS hL)
theorem tv_top {a b : tcV} (e : a = b) (k : tc_V M K nc ns h pc L (b :: st)) : tc_V M K nc ns h pc L (a :: st) := e ▸ k
theorem tv_eq {h' : List tcC} {L' : List (Option tcV)} {st' : List tcV} (k : tc_V M K nc ns h' pc L' st') (e1 : h = h') (e2 : L = L') (e3 : st = st') : tc_V M K nc ns h pc L st := by
  subst e1 e2 e3
  exact k
/-- a field's link: in class own, entry idx is field k of class ci -/
def tc_F (own : String) (idx ci k : Nat) (C : String) (T : u_T) (N : Nat) : Prop := vwCl[ci]? = some (C, T, N) ∧ k < N ∧ (∀ w ∈ u_ws C T N, w ∈ tc_T) ∧ Cond.fieldLink own idx (T k).1 (T k).2.1 (T k).2.2.1 ∈ tc_T
theorem tv_get {idx ci j q N : Nat} {C : String} {T : u_T} {fs : List tcV} {v : tcV} (hF : tc_F M.2.2.1 idx ci j C T N) (hd : decode M.1 pc = .ok (.getfield idx, 3)) (he : h[q]? = some (.inr (ci, fs))) (hv : fs[j]? = some v) (k : tc_V M K nc ns h (pc + 3) L (v :: st)) : tc_V M K nc ns h pc L (.inr (some q) :: st) := by
  intro l p e s m args below meth c D tg ad0 ad B hG H locs ls hP hD hS hL
  obtain ⟨hc, hk, hu, hl⟩ := hF
  exact va_get B.1 B.2.1 B.2.2.2.2.1 hu B.2.2.2.1 B.2.2.2.2.2.1 hP q (tc_w_at he) hc j hk (B.2.2.2.2.1 _ hl) (fun _ z => z) (v := tc_v ad v) (by simp [hv]) hd (k l p e s m args below meth c D tg ad0 ad B hG H locs ls hP hD hS hL)
/-- what the tables say of the fields of a class, for a write -/
def tc_FT (T : u_T) (N : Nat) (ty0 : Nat → FieldType) : Prop := (∀ j, j < N → parseFieldDescriptor (T j).2.2.1 = some (ty0 j)) ∧ (∀ a, a < N → ∀ b, b < N → a ≠ b → (T a).2.1 ≠ (T b).2.1)
theorem tv_put {idx ci j q N : Nat} {C : String} {T : u_T} {ty0 : Nat → FieldType} {fs fs' : List tcV} {x : Int32} {h' : List tcC} (hF : tc_F M.2.2.1 idx ci j C T N) (hT : tc_FT T N ty0) (g3 : (T j).2.2.2 = false) (g4 : parseFieldDescriptor (T j).2.2.1 = some .int) (hd : decode M.1 pc = .ok (.putfield idx, 3)) (he : h[q]? = some (.inr (ci, fs))) (hk : j < fs.length) (hfs : fs.set j (.inl x) = fs') (hh : h.set q (.inr (ci, fs')) = h') (kk : tc_V M K nc ns h' (pc + 3) L st) : tc_V M K nc ns h pc L (.inl x :: .inr (some q) :: st) := by
  intro l p e s m args below meth c D tg ad0 ad B hG H locs ls hP hD hS hL
  obtain ⟨hc, hkN, hu, hl⟩ := hF
  obtain ⟨g1, g2⟩ := hT
  refine va_put B.1 B.2.1 B.2.2.2.2.1 hu ty0 g1 g2 B.2.2.2.1 B.2.2.2.2.2.1 hP hD hS q (tc_w_at he) hc j hkN (B.2.2.2.2.1 _ hl) (fun _ z => z) g3 (ty := .int) (v := .int x) g4 rfl rfl (by simpa using hk) hd (fun H1 locs1 hP1 hD1 hS1 => ?_)
  have ew : (tc_w ad tg h).set q (ad q, .inr (ci, (fs.map (tc_v ad)).set j (.int x))) = tc_w ad tg h' := by
    have e1 : (fs.map (tc_v ad)).set j (.int x) = fs'.map (tc_v ad) := by
      rw [← hfs, List.map_set]
      rfl
    rw [e1, ← hh]
    exact tc_w_set (c := .inr (ci, fs'))
  rw [ew] at hP1 hD1
  exact kk l p e s m args below meth c D tg ad0 ad B ⟨by rw [← hh, List.length_set]; exact hG.1, hG.2⟩ H1 locs1 ls hP1 hD1 hS1 hL
theorem tv_iald {q n : Nat} {f : Nat → Int32} {i : Int32} (hd : decode M.1 pc = .ok (.iaload, 1)) (he : h[q]? = some (.inl (0, n, .inl f))) (hin : vp_in i n) (k : tc_V M K nc ns h (pc + 1) L (.inl (f i.toNatClampNeg) :: st)) : tc_V M K nc ns h pc L (.inl i :: .inr (some q) :: st) := by
  intro l p e s m args below meth c D tg ad0 ad B hG H locs ls hP hD hS hL
  exact va_iald B.1 B.2.1 B.2.2.2.2.2.1 hP q 0 (tc_w_at he) rfl hin hd (k l p e s m args below meth c D tg ad0 ad B hG H locs ls hP hD hS hL)
theorem tv_zald {q n : Nat} {f : Nat → Int32} {i : Int32} (hd : decode M.1 pc = .ok (.baload, 1)) (he : h[q]? = some (.inl (1, n, .inl f))) (hin : vp_in i n) (k : tc_V M K nc ns h (pc + 1) L (.inl (f i.toNatClampNeg) :: st)) : tc_V M K nc ns h pc L (.inl i :: .inr (some q) :: st) := by
  intro l p e s m args below meth c D tg ad0 ad B hG H locs ls hP hD hS hL
  exact va_zald B.1 B.2.1 B.2.2.2.2.2.1 hP q 1 (tc_w_at he) rfl hin hd (k l p e s m args below meth c D tg ad0 ad B hG H locs ls hP hD hS hL)
theorem tv_iast {q n : Nat} {f : Nat → Int32} {i x : Int32} {h' : List tcC} (hd : decode M.1 pc = .ok (.iastore, 1)) (he : h[q]? = some (.inl (0, n, .inl f))) (hin : vp_in i n) (hh : h.set q (.inl (0, n, .inl (upd f i.toNatClampNeg (x)))) = h') (k : tc_V M K nc ns h' (pc + 1) L st) : tc_V M K nc ns h pc L (.inl x :: .inl i :: .inr (some q) :: st) := by
  intro l p e s m args below meth c D tg ad0 ad B hG H locs ls hP hD hS hL
  refine va_iast B.1 B.2.1 B.2.2.2.2.2.1 hP hD hS q 0 (tc_w_at he) rfl hin hd (fun H1 locs1 hP1 hD1 hS1 => ?_)
  have ew : (tc_w ad tg h).set q (ad q, .inl (tg 0, n, .inl (upd f i.toNatClampNeg (x)))) = tc_w ad tg h' := by
    rw [← hh]
    exact tc_w_set (c := .inl (0, n, .inl (upd f i.toNatClampNeg (x))))
  rw [ew] at hP1 hD1
  exact k l p e s m args below meth c D tg ad0 ad B ⟨by rw [← hh, List.length_set]; exact hG.1, hG.2⟩ H1 locs1 ls hP1 hD1 hS1 hL
theorem tv_zast {q n : Nat} {f : Nat → Int32} {i x : Int32} {h' : List tcC} (hd : decode M.1 pc = .ok (.bastore, 1)) (he : h[q]? = some (.inl (1, n, .inl f))) (hin : vp_in i n) (hh : h.set q (.inl (1, n, .inl (upd f i.toNatClampNeg (vp_nar .boolean x)))) = h') (k : tc_V M K nc ns h' (pc + 1) L st) : tc_V M K nc ns h pc L (.inl x :: .inl i :: .inr (some q) :: st) := by
  intro l p e s m args below meth c D tg ad0 ad B hG H locs ls hP hD hS hL
  refine va_zast B.1 B.2.1 B.2.2.2.2.2.1 hP hD hS q 1 (tc_w_at he) rfl hin hd (fun H1 locs1 hP1 hD1 hS1 => ?_)
  have ew : (tc_w ad tg h).set q (ad q, .inl (tg 1, n, .inl (upd f i.toNatClampNeg (vp_nar .boolean x)))) = tc_w ad tg h' := by
    rw [← hh]
    exact tc_w_set (c := .inl (1, n, .inl (upd f i.toNatClampNeg (vp_nar .boolean x))))
  rw [ew] at hP1 hD1
  exact k l p e s m args below meth c D tg ad0 ad B ⟨by rw [← hh, List.length_set]; exact hG.1, hG.2⟩ H1 locs1 ls hP1 hD1 hS1 hL
theorem tv_alen {q n t : Nat} {x : (Nat → Int32) ⊕ (Nat → Option Nat)} {v : Int32} (hd : decode M.1 pc = .ok (.arraylength, 1)) (he : h[q]? = some (.inl (t, n, x))) (ht : t < 2) (hv : nI n = v) (k : tc_V M K nc ns h (pc + 1) L (.inl v :: st)) : tc_V M K nc ns h pc L (.inr (some q) :: st) := by
  intro l p e s m args below meth c D tg ad0 ad B hG H locs ls hP hD hS hL
  have hty : ∃ ty, (tc_ty tg)[t]? = some (tg t, ty) := by
    match t, ht with
    | 0, _ => exact ⟨_, rfl⟩
    | 1, _ => exact ⟨_, rfl⟩
  obtain ⟨ty, hty⟩ := hty
  rcases x with f | f
  · exact va_alen B.1 B.2.1 B.2.2.2.2.2.1 hP q t (tc_w_at he) hty hv hd (k l p e s m args below meth c D tg ad0 ad B hG H locs ls hP hD hS hL)
  · exact va_alen B.1 B.2.1 B.2.2.2.2.2.1 hP q t (tc_w_at he) hty hv hd (k l p e s m args below meth c D tg ad0 ad B hG H locs ls hP hD hS hL)
theorem tv_iret {ty : FieldType} {x : Int32} (hd : decode M.1 pc = .ok (.ireturn, 1)) (hr : M.2.2.2.1 = some ty) (hn : narrow ty (.int x) = .int x) (h1 : K.2.1 = some (.inl x)) (h2 : K.2.2.1 = h) (hc : nc ≤ K.2.2.2.1 ∧ ns ≤ K.2.2.2.2 := by exact ⟨Nat.zero_le _, Nat.zero_le _⟩) : tc_V M K nc ns h pc L [.inl x] := by
  intro l p e s m args below meth c D tg ad0 ad B hG H locs ls hP hD hS hL
  obtain ⟨hx, hb, hml, hown, hts, hK, hN, hrt, hlk, hnm⟩ := B
  refine W.widen (k := K.2.2.2.1) (n := K.2.2.2.2) hc.1 hc.2 ?_
  exact W.zret (ty := ty) hx hb (by rw [hrt, hr]) hn (fun t ht hW => ⟨ad, hG.2, by rw [h1]; rfl, by rw [ht, h2]; exact hP, by rw [h2]; exact hD, hS.F ht⟩) hS.2.2 hd hlk
theorem tv_vret (hd : decode M.1 pc = .ok (.return_, 1)) (hr : M.2.2.2.1 = none) (h1 : K.2.1 = none) (h2 : K.2.2.1 = h) (hc : nc ≤ K.2.2.2.1 ∧ ns ≤ K.2.2.2.2 := by exact ⟨Nat.zero_le _, Nat.zero_le _⟩) : tc_V M K nc ns h pc L [] := by
  intro l p e s m args below meth c D tg ad0 ad B hG H locs ls hP hD hS hL
  obtain ⟨hx, hb, hml, hown, hts, hK, hN, hrt, hlk, hnm⟩ := B
  refine W.widen (k := K.2.2.2.1) (n := K.2.2.2.2) hc.1 hc.2 ?_
  exact W.vret hx hb (by rw [hrt, hr]) (fun t ht hW => ⟨ad, hG.2, by rw [h1]; rfl, by rw [ht, h2]; exact hP, by rw [h2]; exact hD, hS.F ht⟩) hS.2.2 hd hlk
end TV
/-! calls -/
theorem tc_fr {ad0 ad : Nat → Nat} {tg : Nat → ClassId} {h0 h : List tcC} {sz : Nat} {H0 H : Heap} {locs : List Loc} (hsz : H0.size = sz) (hD : va_D (va_A (tc_w ad0 tg h0) sz) (tc_w ad tg h)) (hS : va_S (va_A (tc_w ad0 tg h0) sz) H0 H locs) : ∀ q, va_A (tc_w ad tg h) H.size q → va_A (tc_w ad0 tg h0) sz q := by
  intro q hq
  rcases hq with ⟨k, e, hk⟩ | hq
  · exact hD.2 k _ hk
  · refine Or.inr ?_
    have := hS.1
    omega
theorem tc_go {M : tcM} {K : tcK} {nc ns mc ms : Nat} {h h' : List tcC} {pc : Nat} {L : List (Option tcV)} {rest : List tcV} {r : Option tcV} {l : Launch} {p : Program} {e : Env} {s : State} {m : MethodId} {args : Array Value} {below : List Frame} {meth : Method} {c : Code} {D : va_G} {tg : Nat → ClassId} {ad0 ad : Nat → Nat} {H : Heap} {locs : List Loc} {ls : Array Slot} {st0 : List Value} {a : Array Value}
    (B : tc_B M p s m args meth c D tg) (hG : K.1.length ≤ h.length ∧ ∀ k, k < K.1.length → ad k = ad0 k) (hD : va_D (va_A (tc_w ad0 tg K.1) s.heap.size) (tc_w ad tg h)) (hS : va_S (va_A (tc_w ad0 tg K.1) s.heap.size) s.heap H locs) (hL : tc_L ad ls M.2.1 L) (hlen : h.length ≤ h'.length) (hwf : tc_okL h.length L = true ∧ tc_okS h.length rest = true)
    (hr : va_Run p l e (tc_rm M.2.2.2.2.1 K.2.2.2.1 K.2.2.2.2) s m args below meth c H locs nc ns mc ms (F0 m pc ls st0) (rest.map (tc_v ad)) (tc_Q D tg ad H.size (h, r, h', mc, ms) a) (va_A (tc_w ad tg h) H.size))
    (k : tc_V M K (nc + mc) (ns + ms) h' (pc + 3) L (r.toList ++ rest)) : W p l e (tc_rm M.2.2.2.2.1 K.2.2.2.1 K.2.2.2.2) s m args below meth c H locs nc ns (MQ below (tc_Q D tg ad0 s.heap.size K) args s K.2.2.2.1 K.2.2.2.2 (va_A (tc_w ad0 tg K.1) s.heap.size)) (F0 m pc ls st0) := by
  have hfr := tc_fr rfl hD hS
  intro T hT X
  obtain ⟨v, st₀, t, T', Lc, h0, X', hLc, e1, e2, ⟨ad', hag, hv, hp, hd, hz, hk⟩, stp⟩ := hr T hT X
  cases hv
  rw [h0] at hz hk
  have hS' : va_S (va_A (tc_w ad0 tg K.1) s.heap.size) s.heap T'.heap (locs ++ Lc) := ⟨Nat.le_trans hS.1 (by rw [e1]; exact hz), fun q h1 h2 => by rw [e1, hk q (Nat.lt_of_lt_of_le h1 hS.1) (fun z => h2 (hfr q z))]; exact hS.2.1 q h1 h2, fun q hq => by
      rcases List.mem_append.mp hq with h | h
      · exact hS.2.2 q h
      · exact hfr _ (hLc q h)⟩
  have hst : (r.map (tc_v ad')).toList ++ rest.map (tc_v ad) = (r.toList ++ rest).map (tc_v ad') := by
    rw [← tc_vs_ag hag hwf.2]
    cases r <;> simp
  have kk := k l p e s m args below meth c D tg ad0 ad' B ⟨Nat.le_trans hG.1 hlen, fun k hk => by rw [hag k (Nat.lt_of_lt_of_le hk hG.1)]; exact hG.2 k hk⟩ T'.heap (locs ++ Lc) ls (by rw [e1]; exact hp) (hd.weaken (fun _ q _ z => hfr q.1 z)) hS' (tc_L_ag hag hwf.1 hL)
  obtain ⟨t2, a1, b1⟩ := kk T' rfl X'
  refine ⟨t2, stp t2 ?_, b1⟩
  rw [← hst] at a1
  exact a1
theorem tc_blind {D : va_G} {tg : Nat → ClassId} {ad : Nat → Nat} {sz : Nat} {h : List tcC} {av : List Value} : FrameBlind (va_Pc av (tc_U D tg ad sz h)) := fun a U g mk q => by
  obtain ⟨q0, q1, qP, qK, qD, qN⟩ := q
  exact ⟨q0, q1, qP, va_K.moved (u := U) (U := U.calling g mk a) (Vm.Alike.refl U.vm) qK, qD, tc_N.same (u := U) (U := U.calling g mk a) rfl qN⟩
theorem tc_pre {M : tcM} {p : Program} {s : State} {m : MethodId} {args : Array Value} {meth : Method} {c : Code} {D : va_G} {tg : Nat → ClassId} {ad : Nat → Nat} {h : List tcC} {H : Heap} {A : Nat → Prop} {As : List tcV} (B : tc_B M p s m args meth c D tg) (hP : va_P D vwCl (tc_w ad tg h) H) (hD : va_D A (tc_w ad tg h)) :
    ∀ U : State, U.heap = H → s.WarmedH U.vm → va_Pc (As.map (tc_v ad)) (tc_U D tg ad H.size h) (As.map (tc_v ad)).toArray U := fun U hU hW =>
  ⟨rfl, by rw [hU], by rw [hU]; exact hP, va_K.moved hW.alike B.2.2.2.2.2.1, hD.weaken (fun _ _ _ _ => trivial), B.2.2.2.2.2.2.1.warm hW⟩
theorem tc_room {d d' nL mc ms Mc Ms : Nat} (hd : d' < d) (hn : nL ≤ 13) : (tc_rm d' mc ms).frames + 1 ≤ (tc_rm d Mc Ms).frames ∧ 8 + (nL + 11) + (tc_rm d' mc ms).locals ≤ (tc_rm d Mc Ms).locals := by
  refine ⟨hd, ?_⟩
  show 8 + (nL + 11) + 32 * d' ≤ 32 * d
  omega
theorem tc_catsum (ad : Nat → Nat) : ∀ (vs : List tcV), ((vs.map (tc_v ad)).map fun v => v.category).sum = vs.length
  | [] => rfl
  | v :: vs => by
    have ih := tc_catsum ad vs
    simp only [List.map_cons, List.sum_cons, List.length_cons, tc_cat]
    rw [ih]
    omega
theorem tc_mroom {m : MethodId} {pc : Nat} {ls : Array Slot} {st0 : List Value} {ad : Nat → Nat} {rest : List tcV} (h : rest.length ≤ 8) : 2 * (F0 m pc ls st0).monitorRoom + ((rest.map (tc_v ad)).map fun v => v.category).sum ≤ 8 := lv_room (by rw [tc_catsum]; exact h)
/-- what a call needs of names and tables: the callee -/
def tc_Y (y : MethodName) (cc : ByteArray) (nL : Nat) (ret : Option FieldType) (n : Nat) : Prop := Cond.code y cc nL ret ∈ tc_T ∧ Cond.initialized y.cls ∈ tc_T ∧ (y.cls ≠ "java/lang/invoke/MethodHandle" ∧ y.cls ≠ "java/lang/invoke/VarHandle" ∧ (parseMethodDescriptor y.desc).map (fun d => d.parameters.length) = some n) ∧ nL ≤ 13
theorem tv_callS {M : tcM} {K : tcK} {nc ns mc ms : Nat} {h h' : List tcC} {pc : Nat} {L : List (Option tcV)} {st rest : List tcV} {y : MethodName} {cc : ByteArray} {nL idx n d' : Nat} {ret : Option FieldType} {r : Option tcV}  (As : List tcV) (hM : tc_M y cc nL ret d' As (h, r, h', mc, ms)) (hY : tc_Y y cc nL ret n) (hl : Cond.methodLink M.2.2.1 idx y ∈ tc_T) (hs : Cond.static y ∈ tc_T) (hdd : d' < M.2.2.2.2.1) (hn : As.length = n) (hst : st = As.reverse ++ rest) (hrest : rest.length ≤ 8) (hwf : tc_okL h.length L = true ∧ tc_okS h.length rest = true) (hd : decode M.1 pc = .ok (.invokestatic idx, 3)) (hcs : nc + mc ≤ K.2.2.2.1 ∧ ns + ms ≤ K.2.2.2.2) (k : tc_V M K (nc + mc) (ns + ms) h' (pc + 3) L (r.toList ++ rest)) : tc_V M K nc ns h pc L st := by
  intro l p e s m args below meth c D tg ad0 ad B hG H locs ls hP hD hS hL
  obtain ⟨y1, y2, y3, y4⟩ := hY
  obtain ⟨hx, hb, hml, hown, hts, hK, hN, hrt, hlk, hnm⟩ := id B
  subst hst
  refine tc_go B hG hD hS hL hM.1 hwf (va_runS (As := As.map (tc_v ad)) (n := n) ⟨hx, hb, hml, hown, hts⟩ (hM.2 l D tg ad H.size) ⟨callB_of n hts (tc_goodIn y1) rfl rfl rfl (hts _ y2) (hts _ hl) y3 (tc_room hdd y4), hts _ hs⟩ ⟨tc_blind, tc_pre B hP hD⟩ rfl (by simpa using hn) hL.1 ?_ (tc_mroom hrest) hd hcs) k
  show ((As.reverse ++ rest).map (tc_v ad)) = _
  rw [List.map_append, List.map_reverse]
theorem tv_callV {M : tcM} {K : tcK} {nc ns mc ms : Nat} {h h' : List tcC} {pc : Nat} {L : List (Option tcV)} {st rest : List tcV} {y : MethodName} {cc : ByteArray} {nL idx n d' : Nat} {ret : Option FieldType} {r : Option tcV} {q ci N : Nat} {T : u_T} {fs : List tcV} (As : List tcV) (hM : tc_M y cc nL ret d' (.inr (some q) :: As) (h, r, h', mc, ms)) (hY : tc_Y y cc nL ret n) (hl : Cond.methodLink M.2.2.1 idx y ∈ tc_T) (hi : Cond.instanceMethod y ∈ tc_T) (hsel : Cond.selects y.cls y y ∈ tc_T) (he : h[q]? = some (.inr (ci, fs))) (hc : vwCl[ci]? = some (y.cls, T, N)) (hdd : d' < M.2.2.2.2.1) (hn : As.length = n) (hst : st = As.reverse ++ .inr (some q) :: rest) (hrest : rest.length ≤ 8) (hwf : tc_okL h.length L = true ∧ tc_okS h.length rest = true) (hd : decode M.1 pc = .ok (.invokevirtual idx, 3)) (hcs : nc + mc ≤ K.2.2.2.1 ∧ ns + ms ≤ K.2.2.2.2) (k : tc_V M K (nc + mc) (ns + ms) h' (pc + 3) L (r.toList ++ rest)) : tc_V M K nc ns h pc L st := by
  intro l p e s m args below meth c D tg ad0 ad B hG H locs ls hP hD hS hL
  obtain ⟨y1, y2, y3, y4⟩ := hY
  obtain ⟨hx, hb, hml, hown, hts, hK, hN, hrt, hlk, hnm⟩ := id B
  subst hst
  refine tc_go B hG hD hS hL hM.1 hwf (va_runV (b := ad q) (C := y.cls) (As := As.map (tc_v ad)) (n := n) ⟨hx, hb, hml, hown, hts⟩ (hM.2 l D tg ad H.size) ⟨callB_of n hts (tc_goodIn y1) rfl rfl rfl (hts _ y2) (hts _ hl) y3 (tc_room hdd y4), hts _ hi, hts _ hsel⟩ ⟨tc_blind, va_recv hK hP hc (tc_w_at he), tc_pre (As := .inr (some q) :: As) B hP hD⟩ rfl (by simpa using hn) hL.1 ?_ (tc_mroom hrest) hd hcs) k
  show ((As.reverse ++ .inr (some q) :: rest).map (tc_v ad)) = _
  rw [List.map_append, List.map_reverse]
  rfl
theorem tv_callN {M : tcM} {K : tcK} {nc ns mc ms : Nat} {h h' : List tcC} {pc : Nat} {L : List (Option tcV)} {st rest : List tcV} {y : MethodName} {cc : ByteArray} {nL idx n d' : Nat} {ret : Option FieldType} {r : Option tcV} {q ci N : Nat} {T : u_T} {fs : List tcV} {host : String} (As : List tcV) (hM : tc_M y cc nL ret d' (.inr (some q) :: As) (h, r, h', mc, ms)) (hY : tc_Y y cc nL ret n) (hl : (M.2.2.1, idx, y, host) ∈ tc_nest) (hi : Cond.instanceMethod y ∈ tc_T) (hsel : Cond.selects y.cls y y ∈ tc_T) (he : h[q]? = some (.inr (ci, fs))) (hc : vwCl[ci]? = some (y.cls, T, N)) (hdd : d' < M.2.2.2.2.1) (hn : As.length = n) (hst : st = As.reverse ++ .inr (some q) :: rest) (hrest : rest.length ≤ 8) (hwf : tc_okL h.length L = true ∧ tc_okS h.length rest = true) (hd : decode M.1 pc = .ok (.invokevirtual idx, 3)) (hcs : nc + mc ≤ K.2.2.2.1 ∧ ns + ms ≤ K.2.2.2.2) (k : tc_V M K (nc + mc) (ns + ms) h' (pc + 3) L (r.toList ++ rest)) : tc_V M K nc ns h pc L st := by
  intro l p e s m args below meth c D tg ad0 ad B hG H locs ls hP hD hS hL
  obtain ⟨y1, y2, y3, y4⟩ := hY
  obtain ⟨hx, hb, hml, hown, hts, hK, hN, hrt, hlk, hnm⟩ := id B
  subst hst
  refine tc_go B hG hD hS hL hM.1 hwf (va_runVN (b := ad q) (C := y.cls) (As := As.map (tc_v ad)) (n := n) ⟨hx, hb, hml, hown, hts⟩ (hM.2 l D tg ad H.size) ⟨va_cnB n hts (tc_goodIn y1) rfl rfl rfl (hN _ hl) (hts _ y2) y3 (tc_room hdd y4), hts _ hi, hts _ hsel⟩ ⟨tc_blind, va_recv hK hP hc (tc_w_at he), tc_pre (As := .inr (some q) :: As) B hP hD⟩ rfl (by simpa using hn) hL.1 ?_ (tc_mroom hrest) hd hcs) k
  show ((As.reverse ++ .inr (some q) :: rest).map (tc_v ad)) = _
  rw [List.map_append, List.map_reverse]
  rfl
section TW
variable {M : tcM} {K : tcK} {nc ns : Nat} {h : List tcC} {pc : Nat} {L : List (Option tcV)} {st : List tcV}
theorem tv_istN_0 {x : Int32} {a0 : Option tcV} (hd : decode M.1 pc = .ok (.istore_n 0, 1)) (hn : 0 < M.2.1) (k : tc_V M K nc ns h (pc + 1) (some (.inl x) :: L) st) : tc_V M K nc ns h pc (a0 :: L) (.inl x :: st) := tv_istore_n hd rfl hn rfl k
theorem tv_ist_0 {x : Int32} {a0 : Option tcV} (hd : decode M.1 pc = .ok (.istore 0, 2)) (hn : 0 < M.2.1) (k : tc_V M K nc ns h (pc + 2) (some (.inl x) :: L) st) : tc_V M K nc ns h pc (a0 :: L) (.inl x :: st) := tv_istore hd hn rfl k
theorem tv_astN_0 {x : Nat} {a0 : Option tcV} (hd : decode M.1 pc = .ok (.astore_n 0, 1)) (hn : 0 < M.2.1) (k : tc_V M K nc ns h (pc + 1) (some (.inr (some x)) :: L) st) : tc_V M K nc ns h pc (a0 :: L) (.inr (some x) :: st) := tv_astore_n hd rfl hn rfl k
theorem tv_ast_0 {x : Nat} {a0 : Option tcV} (hd : decode M.1 pc = .ok (.astore 0, 2)) (hn : 0 < M.2.1) (k : tc_V M K nc ns h (pc + 2) (some (.inr (some x)) :: L) st) : tc_V M K nc ns h pc (a0 :: L) (.inr (some x) :: st) := tv_astore hd hn rfl k
theorem tv_iinc_0 {n : Int} {x v : Int32}  (hd : decode M.1 pc = .ok (.iinc 0 n, 3)) (hn : 0 < M.2.1) (hv : x + Int32.ofInt n = v) (k : tc_V M K nc ns h (pc + 3) (some (.inl v) :: L) st) : tc_V M K nc ns h pc (some (.inl x) :: L) st := tv_iinc hd rfl hv hn rfl k
theorem tv_istN_1 {x : Int32} {a0 a1 : Option tcV} (hd : decode M.1 pc = .ok (.istore_n 1, 1)) (hn : 1 < M.2.1) (k : tc_V M K nc ns h (pc + 1) (a0 :: some (.inl x) :: L) st) : tc_V M K nc ns h pc (a0 :: a1 :: L) (.inl x :: st) := tv_istore_n hd rfl hn rfl k
theorem tv_ist_1 {x : Int32} {a0 a1 : Option tcV} (hd : decode M.1 pc = .ok (.istore 1, 2)) (hn : 1 < M.2.1) (k : tc_V M K nc ns h (pc + 2) (a0 :: some (.inl x) :: L) st) : tc_V M K nc ns h pc (a0 :: a1 :: L) (.inl x :: st) := tv_istore hd hn rfl k
theorem tv_astN_1 {x : Nat} {a0 a1 : Option tcV} (hd : decode M.1 pc = .ok (.astore_n 1, 1)) (hn : 1 < M.2.1) (k : tc_V M K nc ns h (pc + 1) (a0 :: some (.inr (some x)) :: L) st) : tc_V M K nc ns h pc (a0 :: a1 :: L) (.inr (some x) :: st) := tv_astore_n hd rfl hn rfl k
theorem tv_ast_1 {x : Nat} {a0 a1 : Option tcV} (hd : decode M.1 pc = .ok (.astore 1, 2)) (hn : 1 < M.2.1) (k : tc_V M K nc ns h (pc + 2) (a0 :: some (.inr (some x)) :: L) st) : tc_V M K nc ns h pc (a0 :: a1 :: L) (.inr (some x) :: st) := tv_astore hd hn rfl k
theorem tv_iinc_1 {n : Int} {x v : Int32} {a0 : Option tcV} (hd : decode M.1 pc = .ok (.iinc 1 n, 3)) (hn : 1 < M.2.1) (hv : x + Int32.ofInt n = v) (k : tc_V M K nc ns h (pc + 3) (a0 :: some (.inl v) :: L) st) : tc_V M K nc ns h pc (a0 :: some (.inl x) :: L) st := tv_iinc hd rfl hv hn rfl k
theorem tv_istN_2 {x : Int32} {a0 a1 a2 : Option tcV} (hd : decode M.1 pc = .ok (.istore_n 2, 1)) (hn : 2 < M.2.1) (k : tc_V M K nc ns h (pc + 1) (a0 :: a1 :: some (.inl x) :: L) st) : tc_V M K nc ns h pc (a0 :: a1 :: a2 :: L) (.inl x :: st) := tv_istore_n hd rfl hn rfl k
theorem tv_ist_2 {x : Int32} {a0 a1 a2 : Option tcV} (hd : decode M.1 pc = .ok (.istore 2, 2)) (hn : 2 < M.2.1) (k : tc_V M K nc ns h (pc + 2) (a0 :: a1 :: some (.inl x) :: L) st) : tc_V M K nc ns h pc (a0 :: a1 :: a2 :: L) (.inl x :: st) := tv_istore hd hn rfl k
theorem tv_astN_2 {x : Nat} {a0 a1 a2 : Option tcV} (hd : decode M.1 pc = .ok (.astore_n 2, 1)) (hn : 2 < M.2.1) (k : tc_V M K nc ns h (pc + 1) (a0 :: a1 :: some (.inr (some x)) :: L) st) : tc_V M K nc ns h pc (a0 :: a1 :: a2 :: L) (.inr (some x) :: st) := tv_astore_n hd rfl hn rfl k
theorem tv_ast_2 {x : Nat} {a0 a1 a2 : Option tcV} (hd : decode M.1 pc = .ok (.astore 2, 2)) (hn : 2 < M.2.1) (k : tc_V M K nc ns h (pc + 2) (a0 :: a1 :: some (.inr (some x)) :: L) st) : tc_V M K nc ns h pc (a0 :: a1 :: a2 :: L) (.inr (some x) :: st) := tv_astore hd hn rfl k
theorem tv_iinc_2 {n : Int} {x v : Int32} {a0 a1 : Option tcV} (hd : decode M.1 pc = .ok (.iinc 2 n, 3)) (hn : 2 < M.2.1) (hv : x + Int32.ofInt n = v) (k : tc_V M K nc ns h (pc + 3) (a0 :: a1 :: some (.inl v) :: L) st) : tc_V M K nc ns h pc (a0 :: a1 :: some (.inl x) :: L) st := tv_iinc hd rfl hv hn rfl k
theorem tv_istN_3 {x : Int32} {a0 a1 a2 a3 : Option tcV} (hd : decode M.1 pc = .ok (.istore_n 3, 1)) (hn : 3 < M.2.1) (k : tc_V M K nc ns h (pc + 1) (a0 :: a1 :: a2 :: some (.inl x) :: L) st) : tc_V M K nc ns h pc (a0 :: a1 :: a2 :: a3 :: L) (.inl x :: st) := tv_istore_n hd rfl hn rfl k
theorem tv_ist_3 {x : Int32} {a0 a1 a2 a3 : Option tcV} (hd : decode M.1 pc = .ok (.istore 3, 2)) (hn : 3 < M.2.1) (k : tc_V M K nc ns h (pc + 2) (a0 :: a1 :: a2 :: some (.inl x) :: L) st) : tc_V M K nc ns h pc (a0 :: a1 :: a2 :: a3 :: L) (.inl x :: st) := tv_istore hd hn rfl k
theorem tv_astN_3 {x : Nat} {a0 a1 a2 a3 : Option tcV} (hd : decode M.1 pc = .ok (.astore_n 3, 1)) (hn : 3 < M.2.1) (k : tc_V M K nc ns h (pc + 1) (a0 :: a1 :: a2 :: some (.inr (some x)) :: L) st) : tc_V M K nc ns h pc (a0 :: a1 :: a2 :: a3 :: L) (.inr (some x) :: st) := tv_astore_n hd rfl hn rfl k
theorem tv_ast_3 {x : Nat} {a0 a1 a2 a3 : Option tcV} (hd : decode M.1 pc = .ok (.astore 3, 2)) (hn : 3 < M.2.1) (k : tc_V M K nc ns h (pc + 2) (a0 :: a1 :: a2 :: some (.inr (some x)) :: L) st) : tc_V M K nc ns h pc (a0 :: a1 :: a2 :: a3 :: L) (.inr (some x) :: st) := tv_astore hd hn rfl k
theorem tv_iinc_3 {n : Int} {x v : Int32} {a0 a1 a2 : Option tcV} (hd : decode M.1 pc = .ok (.iinc 3 n, 3)) (hn : 3 < M.2.1) (hv : x + Int32.ofInt n = v) (k : tc_V M K nc ns h (pc + 3) (a0 :: a1 :: a2 :: some (.inl v) :: L) st) : tc_V M K nc ns h pc (a0 :: a1 :: a2 :: some (.inl x) :: L) st := tv_iinc hd rfl hv hn rfl k
theorem tv_ist_4 {x : Int32} {a0 a1 a2 a3 a4 : Option tcV} (hd : decode M.1 pc = .ok (.istore 4, 2)) (hn : 4 < M.2.1) (k : tc_V M K nc ns h (pc + 2) (a0 :: a1 :: a2 :: a3 :: some (.inl x) :: L) st) : tc_V M K nc ns h pc (a0 :: a1 :: a2 :: a3 :: a4 :: L) (.inl x :: st) := tv_istore hd hn rfl k
theorem tv_ast_4 {x : Nat} {a0 a1 a2 a3 a4 : Option tcV} (hd : decode M.1 pc = .ok (.astore 4, 2)) (hn : 4 < M.2.1) (k : tc_V M K nc ns h (pc + 2) (a0 :: a1 :: a2 :: a3 :: some (.inr (some x)) :: L) st) : tc_V M K nc ns h pc (a0 :: a1 :: a2 :: a3 :: a4 :: L) (.inr (some x) :: st) := tv_astore hd hn rfl k
theorem tv_iinc_4 {n : Int} {x v : Int32} {a0 a1 a2 a3 : Option tcV} (hd : decode M.1 pc = .ok (.iinc 4 n, 3)) (hn : 4 < M.2.1) (hv : x + Int32.ofInt n = v) (k : tc_V M K nc ns h (pc + 3) (a0 :: a1 :: a2 :: a3 :: some (.inl v) :: L) st) : tc_V M K nc ns h pc (a0 :: a1 :: a2 :: a3 :: some (.inl x) :: L) st := tv_iinc hd rfl hv hn rfl k
theorem tv_ist_5 {x : Int32} {a0 a1 a2 a3 a4 a5 : Option tcV} (hd : decode M.1 pc = .ok (.istore 5, 2)) (hn : 5 < M.2.1) (k : tc_V M K nc ns h (pc + 2) (a0 :: a1 :: a2 :: a3 :: a4 :: some (.inl x) :: L) st) : tc_V M K nc ns h pc (a0 :: a1 :: a2 :: a3 :: a4 :: a5 :: L) (.inl x :: st) := tv_istore hd hn rfl k
theorem tv_ast_5 {x : Nat} {a0 a1 a2 a3 a4 a5 : Option tcV} (hd : decode M.1 pc = .ok (.astore 5, 2)) (hn : 5 < M.2.1) (k : tc_V M K nc ns h (pc + 2) (a0 :: a1 :: a2 :: a3 :: a4 :: some (.inr (some x)) :: L) st) : tc_V M K nc ns h pc (a0 :: a1 :: a2 :: a3 :: a4 :: a5 :: L) (.inr (some x) :: st) := tv_astore hd hn rfl k
theorem tv_iinc_5 {n : Int} {x v : Int32} {a0 a1 a2 a3 a4 : Option tcV} (hd : decode M.1 pc = .ok (.iinc 5 n, 3)) (hn : 5 < M.2.1) (hv : x + Int32.ofInt n = v) (k : tc_V M K nc ns h (pc + 3) (a0 :: a1 :: a2 :: a3 :: a4 :: some (.inl v) :: L) st) : tc_V M K nc ns h pc (a0 :: a1 :: a2 :: a3 :: a4 :: some (.inl x) :: L) st := tv_iinc hd rfl hv hn rfl k
theorem tv_ist_6 {x : Int32} {a0 a1 a2 a3 a4 a5 a6 : Option tcV} (hd : decode M.1 pc = .ok (.istore 6, 2)) (hn : 6 < M.2.1) (k : tc_V M K nc ns h (pc + 2) (a0 :: a1 :: a2 :: a3 :: a4 :: a5 :: some (.inl x) :: L) st) : tc_V M K nc ns h pc (a0 :: a1 :: a2 :: a3 :: a4 :: a5 :: a6 :: L) (.inl x :: st) := tv_istore hd hn rfl k
theorem tv_ast_6 {x : Nat} {a0 a1 a2 a3 a4 a5 a6 : Option tcV} (hd : decode M.1 pc = .ok (.astore 6, 2)) (hn : 6 < M.2.1) (k : tc_V M K nc ns h (pc + 2) (a0 :: a1 :: a2 :: a3 :: a4 :: a5 :: some (.inr (some x)) :: L) st) : tc_V M K nc ns h pc (a0 :: a1 :: a2 :: a3 :: a4 :: a5 :: a6 :: L) (.inr (some x) :: st) := tv_astore hd hn rfl k
theorem tv_iinc_6 {n : Int} {x v : Int32} {a0 a1 a2 a3 a4 a5 : Option tcV} (hd : decode M.1 pc = .ok (.iinc 6 n, 3)) (hn : 6 < M.2.1) (hv : x + Int32.ofInt n = v) (k : tc_V M K nc ns h (pc + 3) (a0 :: a1 :: a2 :: a3 :: a4 :: a5 :: some (.inl v) :: L) st) : tc_V M K nc ns h pc (a0 :: a1 :: a2 :: a3 :: a4 :: a5 :: some (.inl x) :: L) st := tv_iinc hd rfl hv hn rfl k
theorem tv_ist_7 {x : Int32} {a0 a1 a2 a3 a4 a5 a6 a7 : Option tcV} (hd : decode M.1 pc = .ok (.istore 7, 2)) (hn : 7 < M.2.1) (k : tc_V M K nc ns h (pc + 2) (a0 :: a1 :: a2 :: a3 :: a4 :: a5 :: a6 :: some (.inl x) :: L) st) : tc_V M K nc ns h pc (a0 :: a1 :: a2 :: a3 :: a4 :: a5 :: a6 :: a7 :: L) (.inl x :: st) := tv_istore hd hn rfl k
theorem tv_ast_7 {x : Nat} {a0 a1 a2 a3 a4 a5 a6 a7 : Option tcV} (hd : decode M.1 pc = .ok (.astore 7, 2)) (hn : 7 < M.2.1) (k : tc_V M K nc ns h (pc + 2) (a0 :: a1 :: a2 :: a3 :: a4 :: a5 :: a6 :: some (.inr (some x)) :: L) st) : tc_V M K nc ns h pc (a0 :: a1 :: a2 :: a3 :: a4 :: a5 :: a6 :: a7 :: L) (.inr (some x) :: st) := tv_astore hd hn rfl k
theorem tv_iinc_7 {n : Int} {x v : Int32} {a0 a1 a2 a3 a4 a5 a6 : Option tcV} (hd : decode M.1 pc = .ok (.iinc 7 n, 3)) (hn : 7 < M.2.1) (hv : x + Int32.ofInt n = v) (k : tc_V M K nc ns h (pc + 3) (a0 :: a1 :: a2 :: a3 :: a4 :: a5 :: a6 :: some (.inl v) :: L) st) : tc_V M K nc ns h pc (a0 :: a1 :: a2 :: a3 :: a4 :: a5 :: a6 :: some (.inl x) :: L) st := tv_iinc hd rfl hv hn rfl k
theorem tv_ist_8 {x : Int32} {a0 a1 a2 a3 a4 a5 a6 a7 a8 : Option tcV} (hd : decode M.1 pc = .ok (.istore 8, 2)) (hn : 8 < M.2.1) (k : tc_V M K nc ns h (pc + 2) (a0 :: a1 :: a2 :: a3 :: a4 :: a5 :: a6 :: a7 :: some (.inl x) :: L) st) : tc_V M K nc ns h pc (a0 :: a1 :: a2 :: a3 :: a4 :: a5 :: a6 :: a7 :: a8 :: L) (.inl x :: st) := tv_istore hd hn rfl k
theorem tv_ast_8 {x : Nat} {a0 a1 a2 a3 a4 a5 a6 a7 a8 : Option tcV} (hd : decode M.1 pc = .ok (.astore 8, 2)) (hn : 8 < M.2.1) (k : tc_V M K nc ns h (pc + 2) (a0 :: a1 :: a2 :: a3 :: a4 :: a5 :: a6 :: a7 :: some (.inr (some x)) :: L) st) : tc_V M K nc ns h pc (a0 :: a1 :: a2 :: a3 :: a4 :: a5 :: a6 :: a7 :: a8 :: L) (.inr (some x) :: st) := tv_astore hd hn rfl k
theorem tv_iinc_8 {n : Int} {x v : Int32} {a0 a1 a2 a3 a4 a5 a6 a7 : Option tcV} (hd : decode M.1 pc = .ok (.iinc 8 n, 3)) (hn : 8 < M.2.1) (hv : x + Int32.ofInt n = v) (k : tc_V M K nc ns h (pc + 3) (a0 :: a1 :: a2 :: a3 :: a4 :: a5 :: a6 :: a7 :: some (.inl v) :: L) st) : tc_V M K nc ns h pc (a0 :: a1 :: a2 :: a3 :: a4 :: a5 :: a6 :: a7 :: some (.inl x) :: L) st := tv_iinc hd rfl hv hn rfl k
theorem tv_ist_9 {x : Int32} {a0 a1 a2 a3 a4 a5 a6 a7 a8 a9 : Option tcV} (hd : decode M.1 pc = .ok (.istore 9, 2)) (hn : 9 < M.2.1) (k : tc_V M K nc ns h (pc + 2) (a0 :: a1 :: a2 :: a3 :: a4 :: a5 :: a6 :: a7 :: a8 :: some (.inl x) :: L) st) : tc_V M K nc ns h pc (a0 :: a1 :: a2 :: a3 :: a4 :: a5 :: a6 :: a7 :: a8 :: a9 :: L) (.inl x :: st) := tv_istore hd hn rfl k
theorem tv_ast_9 {x : Nat} {a0 a1 a2 a3 a4 a5 a6 a7 a8 a9 : Option tcV} (hd : decode M.1 pc = .ok (.astore 9, 2)) (hn : 9 < M.2.1) (k : tc_V M K nc ns h (pc + 2) (a0 :: a1 :: a2 :: a3 :: a4 :: a5 :: a6 :: a7 :: a8 :: some (.inr (some x)) :: L) st) : tc_V M K nc ns h pc (a0 :: a1 :: a2 :: a3 :: a4 :: a5 :: a6 :: a7 :: a8 :: a9 :: L) (.inr (some x) :: st) := tv_astore hd hn rfl k
theorem tv_iinc_9 {n : Int} {x v : Int32} {a0 a1 a2 a3 a4 a5 a6 a7 a8 : Option tcV} (hd : decode M.1 pc = .ok (.iinc 9 n, 3)) (hn : 9 < M.2.1) (hv : x + Int32.ofInt n = v) (k : tc_V M K nc ns h (pc + 3) (a0 :: a1 :: a2 :: a3 :: a4 :: a5 :: a6 :: a7 :: a8 :: some (.inl v) :: L) st) : tc_V M K nc ns h pc (a0 :: a1 :: a2 :: a3 :: a4 :: a5 :: a6 :: a7 :: a8 :: some (.inl x) :: L) st := tv_iinc hd rfl hv hn rfl k
theorem tv_ist_10 {x : Int32} {a0 a1 a2 a3 a4 a5 a6 a7 a8 a9 a10 : Option tcV} (hd : decode M.1 pc = .ok (.istore 10, 2)) (hn : 10 < M.2.1) (k : tc_V M K nc ns h (pc + 2) (a0 :: a1 :: a2 :: a3 :: a4 :: a5 :: a6 :: a7 :: a8 :: a9 :: some (.inl x) :: L) st) : tc_V M K nc ns h pc (a0 :: a1 :: a2 :: a3 :: a4 :: a5 :: a6 :: a7 :: a8 :: a9 :: a10 :: L) (.inl x :: st) := tv_istore hd hn rfl k
theorem tv_ast_10 {x : Nat} {a0 a1 a2 a3 a4 a5 a6 a7 a8 a9 a10 : Option tcV} (hd : decode M.1 pc = .ok (.astore 10, 2)) (hn : 10 < M.2.1) (k : tc_V M K nc ns h (pc + 2) (a0 :: a1 :: a2 :: a3 :: a4 :: a5 :: a6 :: a7 :: a8 :: a9 :: some (.inr (some x)) :: L) st) : tc_V M K nc ns h pc (a0 :: a1 :: a2 :: a3 :: a4 :: a5 :: a6 :: a7 :: a8 :: a9 :: a10 :: L) (.inr (some x) :: st) := tv_astore hd hn rfl k
theorem tv_iinc_10 {n : Int} {x v : Int32} {a0 a1 a2 a3 a4 a5 a6 a7 a8 a9 : Option tcV} (hd : decode M.1 pc = .ok (.iinc 10 n, 3)) (hn : 10 < M.2.1) (hv : x + Int32.ofInt n = v) (k : tc_V M K nc ns h (pc + 3) (a0 :: a1 :: a2 :: a3 :: a4 :: a5 :: a6 :: a7 :: a8 :: a9 :: some (.inl v) :: L) st) : tc_V M K nc ns h pc (a0 :: a1 :: a2 :: a3 :: a4 :: a5 :: a6 :: a7 :: a8 :: a9 :: some (.inl x) :: L) st := tv_iinc hd rfl hv hn rfl k
theorem tv_ist_11 {x : Int32} {a0 a1 a2 a3 a4 a5 a6 a7 a8 a9 a10 a11 : Option tcV} (hd : decode M.1 pc = .ok (.istore 11, 2)) (hn : 11 < M.2.1) (k : tc_V M K nc ns h (pc + 2) (a0 :: a1 :: a2 :: a3 :: a4 :: a5 :: a6 :: a7 :: a8 :: a9 :: a10 :: some (.inl x) :: L) st) : tc_V M K nc ns h pc (a0 :: a1 :: a2 :: a3 :: a4 :: a5 :: a6 :: a7 :: a8 :: a9 :: a10 :: a11 :: L) (.inl x :: st) := tv_istore hd hn rfl k
theorem tv_ast_11 {x : Nat} {a0 a1 a2 a3 a4 a5 a6 a7 a8 a9 a10 a11 : Option tcV} (hd : decode M.1 pc = .ok (.astore 11, 2)) (hn : 11 < M.2.1) (k : tc_V M K nc ns h (pc + 2) (a0 :: a1 :: a2 :: a3 :: a4 :: a5 :: a6 :: a7 :: a8 :: a9 :: a10 :: some (.inr (some x)) :: L) st) : tc_V M K nc ns h pc (a0 :: a1 :: a2 :: a3 :: a4 :: a5 :: a6 :: a7 :: a8 :: a9 :: a10 :: a11 :: L) (.inr (some x) :: st) := tv_astore hd hn rfl k
theorem tv_iinc_11 {n : Int} {x v : Int32} {a0 a1 a2 a3 a4 a5 a6 a7 a8 a9 a10 : Option tcV} (hd : decode M.1 pc = .ok (.iinc 11 n, 3)) (hn : 11 < M.2.1) (hv : x + Int32.ofInt n = v) (k : tc_V M K nc ns h (pc + 3) (a0 :: a1 :: a2 :: a3 :: a4 :: a5 :: a6 :: a7 :: a8 :: a9 :: a10 :: some (.inl v) :: L) st) : tc_V M K nc ns h pc (a0 :: a1 :: a2 :: a3 :: a4 :: a5 :: a6 :: a7 :: a8 :: a9 :: a10 :: some (.inl x) :: L) st := tv_iinc hd rfl hv hn rfl k
theorem tv_ist_12 {x : Int32} {a0 a1 a2 a3 a4 a5 a6 a7 a8 a9 a10 a11 a12 : Option tcV} (hd : decode M.1 pc = .ok (.istore 12, 2)) (hn : 12 < M.2.1) (k : tc_V M K nc ns h (pc + 2) (a0 :: a1 :: a2 :: a3 :: a4 :: a5 :: a6 :: a7 :: a8 :: a9 :: a10 :: a11 :: some (.inl x) :: L) st) : tc_V M K nc ns h pc (a0 :: a1 :: a2 :: a3 :: a4 :: a5 :: a6 :: a7 :: a8 :: a9 :: a10 :: a11 :: a12 :: L) (.inl x :: st) := tv_istore hd hn rfl k
theorem tv_ast_12 {x : Nat} {a0 a1 a2 a3 a4 a5 a6 a7 a8 a9 a10 a11 a12 : Option tcV} (hd : decode M.1 pc = .ok (.astore 12, 2)) (hn : 12 < M.2.1) (k : tc_V M K nc ns h (pc + 2) (a0 :: a1 :: a2 :: a3 :: a4 :: a5 :: a6 :: a7 :: a8 :: a9 :: a10 :: a11 :: some (.inr (some x)) :: L) st) : tc_V M K nc ns h pc (a0 :: a1 :: a2 :: a3 :: a4 :: a5 :: a6 :: a7 :: a8 :: a9 :: a10 :: a11 :: a12 :: L) (.inr (some x) :: st) := tv_astore hd hn rfl k
theorem tv_iinc_12 {n : Int} {x v : Int32} {a0 a1 a2 a3 a4 a5 a6 a7 a8 a9 a10 a11 : Option tcV} (hd : decode M.1 pc = .ok (.iinc 12 n, 3)) (hn : 12 < M.2.1) (hv : x + Int32.ofInt n = v) (k : tc_V M K nc ns h (pc + 3) (a0 :: a1 :: a2 :: a3 :: a4 :: a5 :: a6 :: a7 :: a8 :: a9 :: a10 :: a11 :: some (.inl v) :: L) st) : tc_V M K nc ns h pc (a0 :: a1 :: a2 :: a3 :: a4 :: a5 :: a6 :: a7 :: a8 :: a9 :: a10 :: a11 :: some (.inl x) :: L) st := tv_iinc hd rfl hv hn rfl k
theorem tv_fg {k : Nat} {L' : List (Option tcV)} (hl : L.set k none = L') (kk : tc_V M K nc ns h pc L' st) : tc_V M K nc ns h pc L st := by
  intro l p e s m args below meth c D tg ad0 ad B hG H locs ls hP hD hS hL
  refine kk l p e s m args below meth c D tg ad0 ad B hG H locs ls hP hD hS ⟨hL.1, hL.2.1, fun i v hi => hL.2.2 i v ?_⟩
  subst hl
  by_cases hik : k = i
  · subst hik
    by_cases hlt : k < L.length
    · rw [List.getElem?_set_self hlt] at hi
      cases hi
    · rw [List.getElem?_eq_none (by simpa using Nat.not_lt.mp hlt)] at hi
      cases hi
  · rw [List.getElem?_set_ne hik] at hi
    exact hi
theorem tv_fg_0 {a0 : Option tcV} (kk : tc_V M K nc ns h pc (none :: L) st) : tc_V M K nc ns h pc (a0 :: L) st := tv_fg (k := 0) rfl kk
theorem tv_fg_1 {a0 a1 : Option tcV} (kk : tc_V M K nc ns h pc (a0 :: none :: L) st) : tc_V M K nc ns h pc (a0 :: a1 :: L) st := tv_fg (k := 1) rfl kk
theorem tv_fg_2 {a0 a1 a2 : Option tcV} (kk : tc_V M K nc ns h pc (a0 :: a1 :: none :: L) st) : tc_V M K nc ns h pc (a0 :: a1 :: a2 :: L) st := tv_fg (k := 2) rfl kk
theorem tv_fg_3 {a0 a1 a2 a3 : Option tcV} (kk : tc_V M K nc ns h pc (a0 :: a1 :: a2 :: none :: L) st) : tc_V M K nc ns h pc (a0 :: a1 :: a2 :: a3 :: L) st := tv_fg (k := 3) rfl kk
theorem tv_fg_4 {a0 a1 a2 a3 a4 : Option tcV} (kk : tc_V M K nc ns h pc (a0 :: a1 :: a2 :: a3 :: none :: L) st) : tc_V M K nc ns h pc (a0 :: a1 :: a2 :: a3 :: a4 :: L) st := tv_fg (k := 4) rfl kk
theorem tv_fg_5 {a0 a1 a2 a3 a4 a5 : Option tcV} (kk : tc_V M K nc ns h pc (a0 :: a1 :: a2 :: a3 :: a4 :: none :: L) st) : tc_V M K nc ns h pc (a0 :: a1 :: a2 :: a3 :: a4 :: a5 :: L) st := tv_fg (k := 5) rfl kk
theorem tv_fg_6 {a0 a1 a2 a3 a4 a5 a6 : Option tcV} (kk : tc_V M K nc ns h pc (a0 :: a1 :: a2 :: a3 :: a4 :: a5 :: none :: L) st) : tc_V M K nc ns h pc (a0 :: a1 :: a2 :: a3 :: a4 :: a5 :: a6 :: L) st := tv_fg (k := 6) rfl kk
theorem tv_fg_7 {a0 a1 a2 a3 a4 a5 a6 a7 : Option tcV} (kk : tc_V M K nc ns h pc (a0 :: a1 :: a2 :: a3 :: a4 :: a5 :: a6 :: none :: L) st) : tc_V M K nc ns h pc (a0 :: a1 :: a2 :: a3 :: a4 :: a5 :: a6 :: a7 :: L) st := tv_fg (k := 7) rfl kk
theorem tv_fg_8 {a0 a1 a2 a3 a4 a5 a6 a7 a8 : Option tcV} (kk : tc_V M K nc ns h pc (a0 :: a1 :: a2 :: a3 :: a4 :: a5 :: a6 :: a7 :: none :: L) st) : tc_V M K nc ns h pc (a0 :: a1 :: a2 :: a3 :: a4 :: a5 :: a6 :: a7 :: a8 :: L) st := tv_fg (k := 8) rfl kk
theorem tv_fg_9 {a0 a1 a2 a3 a4 a5 a6 a7 a8 a9 : Option tcV} (kk : tc_V M K nc ns h pc (a0 :: a1 :: a2 :: a3 :: a4 :: a5 :: a6 :: a7 :: a8 :: none :: L) st) : tc_V M K nc ns h pc (a0 :: a1 :: a2 :: a3 :: a4 :: a5 :: a6 :: a7 :: a8 :: a9 :: L) st := tv_fg (k := 9) rfl kk
theorem tv_fg_10 {a0 a1 a2 a3 a4 a5 a6 a7 a8 a9 a10 : Option tcV} (kk : tc_V M K nc ns h pc (a0 :: a1 :: a2 :: a3 :: a4 :: a5 :: a6 :: a7 :: a8 :: a9 :: none :: L) st) : tc_V M K nc ns h pc (a0 :: a1 :: a2 :: a3 :: a4 :: a5 :: a6 :: a7 :: a8 :: a9 :: a10 :: L) st := tv_fg (k := 10) rfl kk
theorem tv_fg_11 {a0 a1 a2 a3 a4 a5 a6 a7 a8 a9 a10 a11 : Option tcV} (kk : tc_V M K nc ns h pc (a0 :: a1 :: a2 :: a3 :: a4 :: a5 :: a6 :: a7 :: a8 :: a9 :: a10 :: none :: L) st) : tc_V M K nc ns h pc (a0 :: a1 :: a2 :: a3 :: a4 :: a5 :: a6 :: a7 :: a8 :: a9 :: a10 :: a11 :: L) st := tv_fg (k := 11) rfl kk
theorem tv_fg_12 {a0 a1 a2 a3 a4 a5 a6 a7 a8 a9 a10 a11 a12 : Option tcV} (kk : tc_V M K nc ns h pc (a0 :: a1 :: a2 :: a3 :: a4 :: a5 :: a6 :: a7 :: a8 :: a9 :: a10 :: a11 :: none :: L) st) : tc_V M K nc ns h pc (a0 :: a1 :: a2 :: a3 :: a4 :: a5 :: a6 :: a7 :: a8 :: a9 :: a10 :: a11 :: a12 :: L) st := tv_fg (k := 12) rfl kk
theorem tv_ialdN {q n t : Nat} {f : Nat → Int32} (hd : decode M.1 pc = .ok (.iaload, 1)) (he : h[q]? = some (.inl (0, n, .inl f))) (hN : n < 2 ^ 31) (ht : t < n) (k : tc_V M K nc ns h (pc + 1) L (.inl (f t) :: st)) : tc_V M K nc ns h pc L (.inl (nI t) :: .inr (some q) :: st) := tv_iald hd he (vp_in_nI ht hN) (by rw [nI_clamp (by omega)]; exact k)
theorem tv_zaldN {q n t : Nat} {f : Nat → Int32} (hd : decode M.1 pc = .ok (.baload, 1)) (he : h[q]? = some (.inl (1, n, .inl f))) (hN : n < 2 ^ 31) (ht : t < n) (k : tc_V M K nc ns h (pc + 1) L (.inl (f t) :: st)) : tc_V M K nc ns h pc L (.inl (nI t) :: .inr (some q) :: st) := tv_zald hd he (vp_in_nI ht hN) (by rw [nI_clamp (by omega)]; exact k)
theorem tv_iastN {q n t : Nat} {f : Nat → Int32} {x : Int32} {h' : List tcC} (hd : decode M.1 pc = .ok (.iastore, 1)) (he : h[q]? = some (.inl (0, n, .inl f))) (hN : n < 2 ^ 31) (ht : t < n) (hh : h.set q (.inl (0, n, .inl (upd f t x))) = h') (k : tc_V M K nc ns h' (pc + 1) L st) : tc_V M K nc ns h pc L (.inl x :: .inl (nI t) :: .inr (some q) :: st) := tv_iast hd he (vp_in_nI ht hN) (by rw [nI_clamp (by omega)]; exact hh) k
theorem tv_zastN {q n t : Nat} {f : Nat → Int32} {x : Int32} {h' : List tcC} (hd : decode M.1 pc = .ok (.bastore, 1)) (he : h[q]? = some (.inl (1, n, .inl f))) (hN : n < 2 ^ 31) (ht : t < n) (hx : vp_nar .boolean x = x) (hh : h.set q (.inl (1, n, .inl (upd f t x))) = h') (k : tc_V M K nc ns h' (pc + 1) L st) : tc_V M K nc ns h pc L (.inl x :: .inl (nI t) :: .inr (some q) :: st) := tv_zast hd he (vp_in_nI ht hN) (by rw [nI_clamp (by omega), hx]; exact hh) k
/-- all that a call by entry idx of class own needs of the tables -/
def tc_KS (own : String) (idx : Nat) (y : MethodName) (cc : ByteArray) (nL : Nat) (ret : Option FieldType) (n : Nat) : Prop := tc_Y y cc nL ret n ∧ Cond.methodLink own idx y ∈ tc_T ∧ Cond.static y ∈ tc_T
def tc_KV (own : String) (idx : Nat) (y : MethodName) (cc : ByteArray) (nL : Nat) (ret : Option FieldType) (n ci : Nat) (T : u_T) (N : Nat) : Prop := tc_Y y cc nL ret n ∧ Cond.methodLink own idx y ∈ tc_T ∧ Cond.instanceMethod y ∈ tc_T ∧ Cond.selects y.cls y y ∈ tc_T ∧ vwCl[ci]? = some (y.cls, T, N)
def tc_KN (own : String) (idx : Nat) (y : MethodName) (cc : ByteArray) (nL : Nat) (ret : Option FieldType) (n ci : Nat) (T : u_T) (N : Nat) (host : String) : Prop := tc_Y y cc nL ret n ∧ (own, idx, y, host) ∈ tc_nest ∧ Cond.instanceMethod y ∈ tc_T ∧ Cond.selects y.cls y y ∈ tc_T ∧ vwCl[ci]? = some (y.cls, T, N)
theorem tv_callS0r {h' : List tcC} {rest : List tcV} {y : MethodName} {cc : ByteArray} {nL idx d' : Nat} {ret : Option FieldType}  {v : tcV} (hK : tc_KS M.2.2.1 idx y cc nL ret 0) (hdd : d' < M.2.2.2.2.1) (hrest : rest.length ≤ 8) (hw : tc_okL h.length L = true ∧ tc_okS h.length rest = true) (hM : tc_M y cc nL ret d' [] (h, some v, h', 0, 0)) (hcs : nc ≤ K.2.2.2.1 ∧ ns ≤ K.2.2.2.2) (hd : decode M.1 pc = .ok (.invokestatic idx, 3)) (k : tc_V M K nc ns h' (pc + 3) L (v :: rest)) : tc_V M K nc ns h pc L (rest) := tv_callS [] hM hK.1 hK.2.1 hK.2.2 hdd rfl rfl hrest hw hd hcs k
theorem tv_callV0r {h' : List tcC} {rest : List tcV} {y : MethodName} {cc : ByteArray} {nL idx d' : Nat} {ret : Option FieldType}  {v : tcV} {q ci N : Nat} {T : u_T} {fs : List tcV} (hK : tc_KV M.2.2.1 idx y cc nL ret 0 ci T N) (hdd : d' < M.2.2.2.2.1) (hrest : rest.length ≤ 8) (hw : tc_okL h.length L = true ∧ tc_okS h.length rest = true) (he : h[q]? = some (.inr (ci, fs))) (hM : tc_M y cc nL ret d' (.inr (some q) :: []) (h, some v, h', 0, 0)) (hcs : nc ≤ K.2.2.2.1 ∧ ns ≤ K.2.2.2.2) (hd : decode M.1 pc = .ok (.invokevirtual idx, 3)) (k : tc_V M K nc ns h' (pc + 3) L (v :: rest)) : tc_V M K nc ns h pc L (.inr (some q) :: rest) := tv_callV [] hM hK.1 hK.2.1 hK.2.2.1 hK.2.2.2.1 he hK.2.2.2.2 hdd rfl rfl hrest hw hd hcs k
theorem tv_callN0r {h' : List tcC} {rest : List tcV} {y : MethodName} {cc : ByteArray} {nL idx d' : Nat} {ret : Option FieldType}  {v : tcV} {q ci N : Nat} {T : u_T} {fs : List tcV} {host : String} (hK : tc_KN M.2.2.1 idx y cc nL ret 0 ci T N host) (hdd : d' < M.2.2.2.2.1) (hrest : rest.length ≤ 8) (hw : tc_okL h.length L = true ∧ tc_okS h.length rest = true) (he : h[q]? = some (.inr (ci, fs))) (hM : tc_M y cc nL ret d' (.inr (some q) :: []) (h, some v, h', 0, 0)) (hcs : nc ≤ K.2.2.2.1 ∧ ns ≤ K.2.2.2.2) (hd : decode M.1 pc = .ok (.invokevirtual idx, 3)) (k : tc_V M K nc ns h' (pc + 3) L (v :: rest)) : tc_V M K nc ns h pc L (.inr (some q) :: rest) := tv_callN [] hM hK.1 hK.2.1 hK.2.2.1 hK.2.2.2.1 he hK.2.2.2.2 hdd rfl rfl hrest hw hd hcs k
theorem tv_callS0v {h' : List tcC} {rest : List tcV} {y : MethodName} {cc : ByteArray} {nL idx d' : Nat} {ret : Option FieldType}   (hK : tc_KS M.2.2.1 idx y cc nL ret 0) (hdd : d' < M.2.2.2.2.1) (hrest : rest.length ≤ 8) (hw : tc_okL h.length L = true ∧ tc_okS h.length rest = true) (hM : tc_M y cc nL ret d' [] (h, none, h', 0, 0)) (hcs : nc ≤ K.2.2.2.1 ∧ ns ≤ K.2.2.2.2) (hd : decode M.1 pc = .ok (.invokestatic idx, 3)) (k : tc_V M K nc ns h' (pc + 3) L (rest)) : tc_V M K nc ns h pc L (rest) := tv_callS [] hM hK.1 hK.2.1 hK.2.2 hdd rfl rfl hrest hw hd hcs k
theorem tv_callV0v {h' : List tcC} {rest : List tcV} {y : MethodName} {cc : ByteArray} {nL idx d' : Nat} {ret : Option FieldType}   {q ci N : Nat} {T : u_T} {fs : List tcV} (hK : tc_KV M.2.2.1 idx y cc nL ret 0 ci T N) (hdd : d' < M.2.2.2.2.1) (hrest : rest.length ≤ 8) (hw : tc_okL h.length L = true ∧ tc_okS h.length rest = true) (he : h[q]? = some (.inr (ci, fs))) (hM : tc_M y cc nL ret d' (.inr (some q) :: []) (h, none, h', 0, 0)) (hcs : nc ≤ K.2.2.2.1 ∧ ns ≤ K.2.2.2.2) (hd : decode M.1 pc = .ok (.invokevirtual idx, 3)) (k : tc_V M K nc ns h' (pc + 3) L (rest)) : tc_V M K nc ns h pc L (.inr (some q) :: rest) := tv_callV [] hM hK.1 hK.2.1 hK.2.2.1 hK.2.2.2.1 he hK.2.2.2.2 hdd rfl rfl hrest hw hd hcs k
theorem tv_callN0v {h' : List tcC} {rest : List tcV} {y : MethodName} {cc : ByteArray} {nL idx d' : Nat} {ret : Option FieldType}   {q ci N : Nat} {T : u_T} {fs : List tcV} {host : String} (hK : tc_KN M.2.2.1 idx y cc nL ret 0 ci T N host) (hdd : d' < M.2.2.2.2.1) (hrest : rest.length ≤ 8) (hw : tc_okL h.length L = true ∧ tc_okS h.length rest = true) (he : h[q]? = some (.inr (ci, fs))) (hM : tc_M y cc nL ret d' (.inr (some q) :: []) (h, none, h', 0, 0)) (hcs : nc ≤ K.2.2.2.1 ∧ ns ≤ K.2.2.2.2) (hd : decode M.1 pc = .ok (.invokevirtual idx, 3)) (k : tc_V M K nc ns h' (pc + 3) L (rest)) : tc_V M K nc ns h pc L (.inr (some q) :: rest) := tv_callN [] hM hK.1 hK.2.1 hK.2.2.1 hK.2.2.2.1 he hK.2.2.2.2 hdd rfl rfl hrest hw hd hcs k
theorem tv_callS1r {h' : List tcC} {rest : List tcV} {y : MethodName} {cc : ByteArray} {nL idx d' : Nat} {ret : Option FieldType} {b0 : tcV} {v : tcV} (hK : tc_KS M.2.2.1 idx y cc nL ret 1) (hdd : d' < M.2.2.2.2.1) (hrest : rest.length ≤ 8) (hw : tc_okL h.length L = true ∧ tc_okS h.length rest = true) (hM : tc_M y cc nL ret d' [b0] (h, some v, h', 0, 0)) (hcs : nc ≤ K.2.2.2.1 ∧ ns ≤ K.2.2.2.2) (hd : decode M.1 pc = .ok (.invokestatic idx, 3)) (k : tc_V M K nc ns h' (pc + 3) L (v :: rest)) : tc_V M K nc ns h pc L (b0 :: rest) := tv_callS [b0] hM hK.1 hK.2.1 hK.2.2 hdd rfl rfl hrest hw hd hcs k
theorem tv_callV1r {h' : List tcC} {rest : List tcV} {y : MethodName} {cc : ByteArray} {nL idx d' : Nat} {ret : Option FieldType} {b0 : tcV} {v : tcV} {q ci N : Nat} {T : u_T} {fs : List tcV} (hK : tc_KV M.2.2.1 idx y cc nL ret 1 ci T N) (hdd : d' < M.2.2.2.2.1) (hrest : rest.length ≤ 8) (hw : tc_okL h.length L = true ∧ tc_okS h.length rest = true) (he : h[q]? = some (.inr (ci, fs))) (hM : tc_M y cc nL ret d' (.inr (some q) :: [b0]) (h, some v, h', 0, 0)) (hcs : nc ≤ K.2.2.2.1 ∧ ns ≤ K.2.2.2.2) (hd : decode M.1 pc = .ok (.invokevirtual idx, 3)) (k : tc_V M K nc ns h' (pc + 3) L (v :: rest)) : tc_V M K nc ns h pc L (b0 :: .inr (some q) :: rest) := tv_callV [b0] hM hK.1 hK.2.1 hK.2.2.1 hK.2.2.2.1 he hK.2.2.2.2 hdd rfl rfl hrest hw hd hcs k
theorem tv_callN1r {h' : List tcC} {rest : List tcV} {y : MethodName} {cc : ByteArray} {nL idx d' : Nat} {ret : Option FieldType} {b0 : tcV} {v : tcV} {q ci N : Nat} {T : u_T} {fs : List tcV} {host : String} (hK : tc_KN M.2.2.1 idx y cc nL ret 1 ci T N host) (hdd : d' < M.2.2.2.2.1) (hrest : rest.length ≤ 8) (hw : tc_okL h.length L = true ∧ tc_okS h.length rest = true) (he : h[q]? = some (.inr (ci, fs))) (hM : tc_M y cc nL ret d' (.inr (some q) :: [b0]) (h, some v, h', 0, 0)) (hcs : nc ≤ K.2.2.2.1 ∧ ns ≤ K.2.2.2.2) (hd : decode M.1 pc = .ok (.invokevirtual idx, 3)) (k : tc_V M K nc ns h' (pc + 3) L (v :: rest)) : tc_V M K nc ns h pc L (b0 :: .inr (some q) :: rest) := tv_callN [b0] hM hK.1 hK.2.1 hK.2.2.1 hK.2.2.2.1 he hK.2.2.2.2 hdd rfl rfl hrest hw hd hcs k
theorem tv_callS1v {h' : List tcC} {rest : List tcV} {y : MethodName} {cc : ByteArray} {nL idx d' : Nat} {ret : Option FieldType} {b0 : tcV}  (hK : tc_KS M.2.2.1 idx y cc nL ret 1) (hdd : d' < M.2.2.2.2.1) (hrest : rest.length ≤ 8) (hw : tc_okL h.length L = true ∧ tc_okS h.length rest = true) (hM : tc_M y cc nL ret d' [b0] (h, none, h', 0, 0)) (hcs : nc ≤ K.2.2.2.1 ∧ ns ≤ K.2.2.2.2) (hd : decode M.1 pc = .ok (.invokestatic idx, 3)) (k : tc_V M K nc ns h' (pc + 3) L (rest)) : tc_V M K nc ns h pc L (b0 :: rest) := tv_callS [b0] hM hK.1 hK.2.1 hK.2.2 hdd rfl rfl hrest hw hd hcs k
theorem tv_callV1v {h' : List tcC} {rest : List tcV} {y : MethodName} {cc : ByteArray} {nL idx d' : Nat} {ret : Option FieldType} {b0 : tcV}  {q ci N : Nat} {T : u_T} {fs : List tcV} (hK : tc_KV M.2.2.1 idx y cc nL ret 1 ci T N) (hdd : d' < M.2.2.2.2.1) (hrest : rest.length ≤ 8) (hw : tc_okL h.length L = true ∧ tc_okS h.length rest = true) (he : h[q]? = some (.inr (ci, fs))) (hM : tc_M y cc nL ret d' (.inr (some q) :: [b0]) (h, none, h', 0, 0)) (hcs : nc ≤ K.2.2.2.1 ∧ ns ≤ K.2.2.2.2) (hd : decode M.1 pc = .ok (.invokevirtual idx, 3)) (k : tc_V M K nc ns h' (pc + 3) L (rest)) : tc_V M K nc ns h pc L (b0 :: .inr (some q) :: rest) := tv_callV [b0] hM hK.1 hK.2.1 hK.2.2.1 hK.2.2.2.1 he hK.2.2.2.2 hdd rfl rfl hrest hw hd hcs k
theorem tv_callN1v {h' : List tcC} {rest : List tcV} {y : MethodName} {cc : ByteArray} {nL idx d' : Nat} {ret : Option FieldType} {b0 : tcV}  {q ci N : Nat} {T : u_T} {fs : List tcV} {host : String} (hK : tc_KN M.2.2.1 idx y cc nL ret 1 ci T N host) (hdd : d' < M.2.2.2.2.1) (hrest : rest.length ≤ 8) (hw : tc_okL h.length L = true ∧ tc_okS h.length rest = true) (he : h[q]? = some (.inr (ci, fs))) (hM : tc_M y cc nL ret d' (.inr (some q) :: [b0]) (h, none, h', 0, 0)) (hcs : nc ≤ K.2.2.2.1 ∧ ns ≤ K.2.2.2.2) (hd : decode M.1 pc = .ok (.invokevirtual idx, 3)) (k : tc_V M K nc ns h' (pc + 3) L (rest)) : tc_V M K nc ns h pc L (b0 :: .inr (some q) :: rest) := tv_callN [b0] hM hK.1 hK.2.1 hK.2.2.1 hK.2.2.2.1 he hK.2.2.2.2 hdd rfl rfl hrest hw hd hcs k
theorem tv_callS2r {h' : List tcC} {rest : List tcV} {y : MethodName} {cc : ByteArray} {nL idx d' : Nat} {ret : Option FieldType} {b0 b1 : tcV} {v : tcV} (hK : tc_KS M.2.2.1 idx y cc nL ret 2) (hdd : d' < M.2.2.2.2.1) (hrest : rest.length ≤ 8) (hw : tc_okL h.length L = true ∧ tc_okS h.length rest = true) (hM : tc_M y cc nL ret d' [b0, b1] (h, some v, h', 0, 0)) (hcs : nc ≤ K.2.2.2.1 ∧ ns ≤ K.2.2.2.2) (hd : decode M.1 pc = .ok (.invokestatic idx, 3)) (k : tc_V M K nc ns h' (pc + 3) L (v :: rest)) : tc_V M K nc ns h pc L (b1 :: b0 :: rest) := tv_callS [b0, b1] hM hK.1 hK.2.1 hK.2.2 hdd rfl rfl hrest hw hd hcs k
theorem tv_callV2r {h' : List tcC} {rest : List tcV} {y : MethodName} {cc : ByteArray} {nL idx d' : Nat} {ret : Option FieldType} {b0 b1 : tcV} {v : tcV} {q ci N : Nat} {T : u_T} {fs : List tcV} (hK : tc_KV M.2.2.1 idx y cc nL ret 2 ci T N) (hdd : d' < M.2.2.2.2.1) (hrest : rest.length ≤ 8) (hw : tc_okL h.length L = true ∧ tc_okS h.length rest = true) (he : h[q]? = some (.inr (ci, fs))) (hM : tc_M y cc nL ret d' (.inr (some q) :: [b0, b1]) (h, some v, h', 0, 0)) (hcs : nc ≤ K.2.2.2.1 ∧ ns ≤ K.2.2.2.2) (hd : decode M.1 pc = .ok (.invokevirtual idx, 3)) (k : tc_V M K nc ns h' (pc + 3) L (v :: rest)) : tc_V M K nc ns h pc L (b1 :: b0 :: .inr (some q) :: rest) := tv_callV [b0, b1] hM hK.1 hK.2.1 hK.2.2.1 hK.2.2.2.1 he hK.2.2.2.2 hdd rfl rfl hrest hw hd hcs k
theorem tv_callN2r {h' : List tcC} {rest : List tcV} {y : MethodName} {cc : ByteArray} {nL idx d' : Nat} {ret : Option FieldType} {b0 b1 : tcV} {v : tcV} {q ci N : Nat} {T : u_T} {fs : List tcV} {host : String} (hK : tc_KN M.2.2.1 idx y cc nL ret 2 ci T N host) (hdd : d' < M.2.2.2.2.1) (hrest : rest.length ≤ 8) (hw : tc_okL h.length L = true ∧ tc_okS h.length rest = true) (he : h[q]? = some (.inr (ci, fs))) (hM : tc_M y cc nL ret d' (.inr (some q) :: [b0, b1]) (h, some v, h', 0, 0)) (hcs : nc ≤ K.2.2.2.1 ∧ ns ≤ K.2.2.2.2) (hd : decode M.1 pc = .ok (.invokevirtual idx, 3)) (k : tc_V M K nc ns h' (pc + 3) L (v :: rest)) : tc_V M K nc ns h pc L (b1 :: b0 :: .inr (some q) :: rest) := tv_callN [b0, b1] hM hK.1 hK.2.1 hK.2.2.1 hK.2.2.2.1 he hK.2.2.2.2 hdd rfl rfl hrest hw hd hcs k
theorem tv_callS2v {h' : List tcC} {rest : List tcV} {y : MethodName} {cc : ByteArray} {nL idx d' : Nat} {ret : Option FieldType} {b0 b1 : tcV}  (hK : tc_KS M.2.2.1 idx y cc nL ret 2) (hdd : d' < M.2.2.2.2.1) (hrest : rest.length ≤ 8) (hw : tc_okL h.length L = true ∧ tc_okS h.length rest = true) (hM : tc_M y cc nL ret d' [b0, b1] (h, none, h', 0, 0)) (hcs : nc ≤ K.2.2.2.1 ∧ ns ≤ K.2.2.2.2) (hd : decode M.1 pc = .ok (.invokestatic idx, 3)) (k : tc_V M K nc ns h' (pc + 3) L (rest)) : tc_V M K nc ns h pc L (b1 :: b0 :: rest) := tv_callS [b0, b1] hM hK.1 hK.2.1 hK.2.2 hdd rfl rfl hrest hw hd hcs k
theorem tv_callV2v {h' : List tcC} {rest : List tcV} {y : MethodName} {cc : ByteArray} {nL idx d' : Nat} {ret : Option FieldType} {b0 b1 : tcV}  {q ci N : Nat} {T : u_T} {fs : List tcV} (hK : tc_KV M.2.2.1 idx y cc nL ret 2 ci T N) (hdd : d' < M.2.2.2.2.1) (hrest : rest.length ≤ 8) (hw : tc_okL h.length L = true ∧ tc_okS h.length rest = true) (he : h[q]? = some (.inr (ci, fs))) (hM : tc_M y cc nL ret d' (.inr (some q) :: [b0, b1]) (h, none, h', 0, 0)) (hcs : nc ≤ K.2.2.2.1 ∧ ns ≤ K.2.2.2.2) (hd : decode M.1 pc = .ok (.invokevirtual idx, 3)) (k : tc_V M K nc ns h' (pc + 3) L (rest)) : tc_V M K nc ns h pc L (b1 :: b0 :: .inr (some q) :: rest) := tv_callV [b0, b1] hM hK.1 hK.2.1 hK.2.2.1 hK.2.2.2.1 he hK.2.2.2.2 hdd rfl rfl hrest hw hd hcs k
theorem tv_callN2v {h' : List tcC} {rest : List tcV} {y : MethodName} {cc : ByteArray} {nL idx d' : Nat} {ret : Option FieldType} {b0 b1 : tcV}  {q ci N : Nat} {T : u_T} {fs : List tcV} {host : String} (hK : tc_KN M.2.2.1 idx y cc nL ret 2 ci T N host) (hdd : d' < M.2.2.2.2.1) (hrest : rest.length ≤ 8) (hw : tc_okL h.length L = true ∧ tc_okS h.length rest = true) (he : h[q]? = some (.inr (ci, fs))) (hM : tc_M y cc nL ret d' (.inr (some q) :: [b0, b1]) (h, none, h', 0, 0)) (hcs : nc ≤ K.2.2.2.1 ∧ ns ≤ K.2.2.2.2) (hd : decode M.1 pc = .ok (.invokevirtual idx, 3)) (k : tc_V M K nc ns h' (pc + 3) L (rest)) : tc_V M K nc ns h pc L (b1 :: b0 :: .inr (some q) :: rest) := tv_callN [b0, b1] hM hK.1 hK.2.1 hK.2.2.1 hK.2.2.2.1 he hK.2.2.2.2 hdd rfl rfl hrest hw hd hcs k
theorem tv_callS3r {h' : List tcC} {rest : List tcV} {y : MethodName} {cc : ByteArray} {nL idx d' : Nat} {ret : Option FieldType} {b0 b1 b2 : tcV} {v : tcV} (hK : tc_KS M.2.2.1 idx y cc nL ret 3) (hdd : d' < M.2.2.2.2.1) (hrest : rest.length ≤ 8) (hw : tc_okL h.length L = true ∧ tc_okS h.length rest = true) (hM : tc_M y cc nL ret d' [b0, b1, b2] (h, some v, h', 0, 0)) (hcs : nc ≤ K.2.2.2.1 ∧ ns ≤ K.2.2.2.2) (hd : decode M.1 pc = .ok (.invokestatic idx, 3)) (k : tc_V M K nc ns h' (pc + 3) L (v :: rest)) : tc_V M K nc ns h pc L (b2 :: b1 :: b0 :: rest) := tv_callS [b0, b1, b2] hM hK.1 hK.2.1 hK.2.2 hdd rfl rfl hrest hw hd hcs k
theorem tv_callV3r {h' : List tcC} {rest : List tcV} {y : MethodName} {cc : ByteArray} {nL idx d' : Nat} {ret : Option FieldType} {b0 b1 b2 : tcV} {v : tcV} {q ci N : Nat} {T : u_T} {fs : List tcV} (hK : tc_KV M.2.2.1 idx y cc nL ret 3 ci T N) (hdd : d' < M.2.2.2.2.1) (hrest : rest.length ≤ 8) (hw : tc_okL h.length L = true ∧ tc_okS h.length rest = true) (he : h[q]? = some (.inr (ci, fs))) (hM : tc_M y cc nL ret d' (.inr (some q) :: [b0, b1, b2]) (h, some v, h', 0, 0)) (hcs : nc ≤ K.2.2.2.1 ∧ ns ≤ K.2.2.2.2) (hd : decode M.1 pc = .ok (.invokevirtual idx, 3)) (k : tc_V M K nc ns h' (pc + 3) L (v :: rest)) : tc_V M K nc ns h pc L (b2 :: b1 :: b0 :: .inr (some q) :: rest) := tv_callV [b0, b1, b2] hM hK.1 hK.2.1 hK.2.2.1 hK.2.2.2.1 he hK.2.2.2.2 hdd rfl rfl hrest hw hd hcs k
theorem tv_callN3r {h' : List tcC} {rest : List tcV} {y : MethodName} {cc : ByteArray} {nL idx d' : Nat} {ret : Option FieldType} {b0 b1 b2 : tcV} {v : tcV} {q ci N : Nat} {T : u_T} {fs : List tcV} {host : String} (hK : tc_KN M.2.2.1 idx y cc nL ret 3 ci T N host) (hdd : d' < M.2.2.2.2.1) (hrest : rest.length ≤ 8) (hw : tc_okL h.length L = true ∧ tc_okS h.length rest = true) (he : h[q]? = some (.inr (ci, fs))) (hM : tc_M y cc nL ret d' (.inr (some q) :: [b0, b1, b2]) (h, some v, h', 0, 0)) (hcs : nc ≤ K.2.2.2.1 ∧ ns ≤ K.2.2.2.2) (hd : decode M.1 pc = .ok (.invokevirtual idx, 3)) (k : tc_V M K nc ns h' (pc + 3) L (v :: rest)) : tc_V M K nc ns h pc L (b2 :: b1 :: b0 :: .inr (some q) :: rest) := tv_callN [b0, b1, b2] hM hK.1 hK.2.1 hK.2.2.1 hK.2.2.2.1 he hK.2.2.2.2 hdd rfl rfl hrest hw hd hcs k
theorem tv_callS3v {h' : List tcC} {rest : List tcV} {y : MethodName} {cc : ByteArray} {nL idx d' : Nat} {ret : Option FieldType} {b0 b1 b2 : tcV}  (hK : tc_KS M.2.2.1 idx y cc nL ret 3) (hdd : d' < M.2.2.2.2.1) (hrest : rest.length ≤ 8) (hw : tc_okL h.length L = true ∧ tc_okS h.length rest = true) (hM : tc_M y cc nL ret d' [b0, b1, b2] (h, none, h', 0, 0)) (hcs : nc ≤ K.2.2.2.1 ∧ ns ≤ K.2.2.2.2) (hd : decode M.1 pc = .ok (.invokestatic idx, 3)) (k : tc_V M K nc ns h' (pc + 3) L (rest)) : tc_V M K nc ns h pc L (b2 :: b1 :: b0 :: rest) := tv_callS [b0, b1, b2] hM hK.1 hK.2.1 hK.2.2 hdd rfl rfl hrest hw hd hcs k
theorem tv_callV3v {h' : List tcC} {rest : List tcV} {y : MethodName} {cc : ByteArray} {nL idx d' : Nat} {ret : Option FieldType} {b0 b1 b2 : tcV}  {q ci N : Nat} {T : u_T} {fs : List tcV} (hK : tc_KV M.2.2.1 idx y cc nL ret 3 ci T N) (hdd : d' < M.2.2.2.2.1) (hrest : rest.length ≤ 8) (hw : tc_okL h.length L = true ∧ tc_okS h.length rest = true) (he : h[q]? = some (.inr (ci, fs))) (hM : tc_M y cc nL ret d' (.inr (some q) :: [b0, b1, b2]) (h, none, h', 0, 0)) (hcs : nc ≤ K.2.2.2.1 ∧ ns ≤ K.2.2.2.2) (hd : decode M.1 pc = .ok (.invokevirtual idx, 3)) (k : tc_V M K nc ns h' (pc + 3) L (rest)) : tc_V M K nc ns h pc L (b2 :: b1 :: b0 :: .inr (some q) :: rest) := tv_callV [b0, b1, b2] hM hK.1 hK.2.1 hK.2.2.1 hK.2.2.2.1 he hK.2.2.2.2 hdd rfl rfl hrest hw hd hcs k
theorem tv_callN3v {h' : List tcC} {rest : List tcV} {y : MethodName} {cc : ByteArray} {nL idx d' : Nat} {ret : Option FieldType} {b0 b1 b2 : tcV}  {q ci N : Nat} {T : u_T} {fs : List tcV} {host : String} (hK : tc_KN M.2.2.1 idx y cc nL ret 3 ci T N host) (hdd : d' < M.2.2.2.2.1) (hrest : rest.length ≤ 8) (hw : tc_okL h.length L = true ∧ tc_okS h.length rest = true) (he : h[q]? = some (.inr (ci, fs))) (hM : tc_M y cc nL ret d' (.inr (some q) :: [b0, b1, b2]) (h, none, h', 0, 0)) (hcs : nc ≤ K.2.2.2.1 ∧ ns ≤ K.2.2.2.2) (hd : decode M.1 pc = .ok (.invokevirtual idx, 3)) (k : tc_V M K nc ns h' (pc + 3) L (rest)) : tc_V M K nc ns h pc L (b2 :: b1 :: b0 :: .inr (some q) :: rest) := tv_callN [b0, b1, b2] hM hK.1 hK.2.1 hK.2.2.1 hK.2.2.2.1 he hK.2.2.2.2 hdd rfl rfl hrest hw hd hcs k
theorem tv_callS4r {h' : List tcC} {rest : List tcV} {y : MethodName} {cc : ByteArray} {nL idx d' : Nat} {ret : Option FieldType} {b0 b1 b2 b3 : tcV} {v : tcV} (hK : tc_KS M.2.2.1 idx y cc nL ret 4) (hdd : d' < M.2.2.2.2.1) (hrest : rest.length ≤ 8) (hw : tc_okL h.length L = true ∧ tc_okS h.length rest = true) (hM : tc_M y cc nL ret d' [b0, b1, b2, b3] (h, some v, h', 0, 0)) (hcs : nc ≤ K.2.2.2.1 ∧ ns ≤ K.2.2.2.2) (hd : decode M.1 pc = .ok (.invokestatic idx, 3)) (k : tc_V M K nc ns h' (pc + 3) L (v :: rest)) : tc_V M K nc ns h pc L (b3 :: b2 :: b1 :: b0 :: rest) := tv_callS [b0, b1, b2, b3] hM hK.1 hK.2.1 hK.2.2 hdd rfl rfl hrest hw hd hcs k
theorem tv_callV4r {h' : List tcC} {rest : List tcV} {y : MethodName} {cc : ByteArray} {nL idx d' : Nat} {ret : Option FieldType} {b0 b1 b2 b3 : tcV} {v : tcV} {q ci N : Nat} {T : u_T} {fs : List tcV} (hK : tc_KV M.2.2.1 idx y cc nL ret 4 ci T N) (hdd : d' < M.2.2.2.2.1) (hrest : rest.length ≤ 8) (hw : tc_okL h.length L = true ∧ tc_okS h.length rest = true) (he : h[q]? = some (.inr (ci, fs))) (hM : tc_M y cc nL ret d' (.inr (some q) :: [b0, b1, b2, b3]) (h, some v, h', 0, 0)) (hcs : nc ≤ K.2.2.2.1 ∧ ns ≤ K.2.2.2.2) (hd : decode M.1 pc = .ok (.invokevirtual idx, 3)) (k : tc_V M K nc ns h' (pc + 3) L (v :: rest)) : tc_V M K nc ns h pc L (b3 :: b2 :: b1 :: b0 :: .inr (some q) :: rest) := tv_callV [b0, b1, b2, b3] hM hK.1 hK.2.1 hK.2.2.1 hK.2.2.2.1 he hK.2.2.2.2 hdd rfl rfl hrest hw hd hcs k
theorem tv_callN4r {h' : List tcC} {rest : List tcV} {y : MethodName} {cc : ByteArray} {nL idx d' : Nat} {ret : Option FieldType} {b0 b1 b2 b3 : tcV} {v : tcV} {q ci N : Nat} {T : u_T} {fs : List tcV} {host : String} (hK : tc_KN M.2.2.1 idx y cc nL ret 4 ci T N host) (hdd : d' < M.2.2.2.2.1) (hrest : rest.length ≤ 8) (hw : tc_okL h.length L = true ∧ tc_okS h.length rest = true) (he : h[q]? = some (.inr (ci, fs))) (hM : tc_M y cc nL ret d' (.inr (some q) :: [b0, b1, b2, b3]) (h, some v, h', 0, 0)) (hcs : nc ≤ K.2.2.2.1 ∧ ns ≤ K.2.2.2.2) (hd : decode M.1 pc = .ok (.invokevirtual idx, 3)) (k : tc_V M K nc ns h' (pc + 3) L (v :: rest)) : tc_V M K nc ns h pc L (b3 :: b2 :: b1 :: b0 :: .inr (some q) :: rest) := tv_callN [b0, b1, b2, b3] hM hK.1 hK.2.1 hK.2.2.1 hK.2.2.2.1 he hK.2.2.2.2 hdd rfl rfl hrest hw hd hcs k
theorem tv_callS4v {h' : List tcC} {rest : List tcV} {y : MethodName} {cc : ByteArray} {nL idx d' : Nat} {ret : Option FieldType} {b0 b1 b2 b3 : tcV}  (hK : tc_KS M.2.2.1 idx y cc nL ret 4) (hdd : d' < M.2.2.2.2.1) (hrest : rest.length ≤ 8) (hw : tc_okL h.length L = true ∧ tc_okS h.length rest = true) (hM : tc_M y cc nL ret d' [b0, b1, b2, b3] (h, none, h', 0, 0)) (hcs : nc ≤ K.2.2.2.1 ∧ ns ≤ K.2.2.2.2) (hd : decode M.1 pc = .ok (.invokestatic idx, 3)) (k : tc_V M K nc ns h' (pc + 3) L (rest)) : tc_V M K nc ns h pc L (b3 :: b2 :: b1 :: b0 :: rest) := tv_callS [b0, b1, b2, b3] hM hK.1 hK.2.1 hK.2.2 hdd rfl rfl hrest hw hd hcs k
theorem tv_callV4v {h' : List tcC} {rest : List tcV} {y : MethodName} {cc : ByteArray} {nL idx d' : Nat} {ret : Option FieldType} {b0 b1 b2 b3 : tcV}  {q ci N : Nat} {T : u_T} {fs : List tcV} (hK : tc_KV M.2.2.1 idx y cc nL ret 4 ci T N) (hdd : d' < M.2.2.2.2.1) (hrest : rest.length ≤ 8) (hw : tc_okL h.length L = true ∧ tc_okS h.length rest = true) (he : h[q]? = some (.inr (ci, fs))) (hM : tc_M y cc nL ret d' (.inr (some q) :: [b0, b1, b2, b3]) (h, none, h', 0, 0)) (hcs : nc ≤ K.2.2.2.1 ∧ ns ≤ K.2.2.2.2) (hd : decode M.1 pc = .ok (.invokevirtual idx, 3)) (k : tc_V M K nc ns h' (pc + 3) L (rest)) : tc_V M K nc ns h pc L (b3 :: b2 :: b1 :: b0 :: .inr (some q) :: rest) := tv_callV [b0, b1, b2, b3] hM hK.1 hK.2.1 hK.2.2.1 hK.2.2.2.1 he hK.2.2.2.2 hdd rfl rfl hrest hw hd hcs k
theorem tv_callN4v {h' : List tcC} {rest : List tcV} {y : MethodName} {cc : ByteArray} {nL idx d' : Nat} {ret : Option FieldType} {b0 b1 b2 b3 : tcV}  {q ci N : Nat} {T : u_T} {fs : List tcV} {host : String} (hK : tc_KN M.2.2.1 idx y cc nL ret 4 ci T N host) (hdd : d' < M.2.2.2.2.1) (hrest : rest.length ≤ 8) (hw : tc_okL h.length L = true ∧ tc_okS h.length rest = true) (he : h[q]? = some (.inr (ci, fs))) (hM : tc_M y cc nL ret d' (.inr (some q) :: [b0, b1, b2, b3]) (h, none, h', 0, 0)) (hcs : nc ≤ K.2.2.2.1 ∧ ns ≤ K.2.2.2.2) (hd : decode M.1 pc = .ok (.invokevirtual idx, 3)) (k : tc_V M K nc ns h' (pc + 3) L (rest)) : tc_V M K nc ns h pc L (b3 :: b2 :: b1 :: b0 :: .inr (some q) :: rest) := tv_callN [b0, b1, b2, b3] hM hK.1 hK.2.1 hK.2.2.1 hK.2.2.2.1 he hK.2.2.2.2 hdd rfl rfl hrest hw hd hcs k
end TW
end
section
/-! rows that make cells -/
def tc_okH (n : Nat) (h : List tcC) : Bool := h.all (fun c => match c with
  | .inl (_, _, .inl _) => true
  | .inl (_, _, .inr _) => false
  | .inr (_, fs) => tc_okS n fs)
theorem tc_e_ag {n : Nat} {ad ad' : Nat → Nat} {tg : Nat → ClassId} (ha : ∀ k, k < n → ad' k = ad k) {h : List tcC} (hh : tc_okH n h = true) {c : tcC} (hc : c ∈ h) : tc_e ad' tg c = tc_e ad tg c := by
  have h1 := List.all_eq_true.mp hh c hc
  rcases c with ⟨t, m, f | g⟩ | ⟨ci, fs⟩
  · rfl
  · exact absurd h1 (by simp)
  · show Sum.inr (ci, fs.map (tc_v ad')) = Sum.inr (ci, fs.map (tc_v ad))
    rw [tc_vs_ag ha h1]
def tc_ad (ad : Nat → Nat) (n q : Nat) : Nat → Nat := fun k => if k = n then q else ad k
theorem tc_ad_lt {ad : Nat → Nat} {n q : Nat} : ∀ k, k < n → tc_ad ad n q k = ad k := fun k hk => by
  unfold tc_ad
  rw [if_neg (by omega)]
theorem tc_ad_n {ad : Nat → Nat} {n q : Nat} : tc_ad ad n q n = q := by
  unfold tc_ad
  rw [if_pos rfl]
theorem tc_w_new {ad : Nat → Nat} {tg : Nat → ClassId} {h : List tcC} {c : tcC} {q : Nat} (hh : tc_okH h.length h = true) (hc : tc_okH h.length [c] = true) : tc_w (tc_ad ad h.length q) tg (h ++ [c]) = tc_w ad tg h ++ [(q, tc_e ad tg c)] := by
  refine List.ext_getElem? (fun i => ?_)
  have e1 : (tc_w (tc_ad ad h.length q) tg (h ++ [c]))[i]? = ((h ++ [c])[i]?).map (fun c => (tc_ad ad h.length q i, tc_e (tc_ad ad h.length q) tg c)) := by unfold tc_w; rw [List.getElem?_mapIdx]
  have e2 : (tc_w ad tg h)[i]? = (h[i]?).map (fun c => (ad i, tc_e ad tg c)) := by unfold tc_w; rw [List.getElem?_mapIdx]
  have e3 : (tc_w ad tg h).length = h.length := by simp [tc_w]
  rw [e1]
  by_cases hi : i < h.length
  · rw [List.getElem?_append_left hi, List.getElem?_append_left (by rw [e3]; exact hi), e2, tc_ad_lt i hi, List.getElem?_eq_getElem hi]
    simp only [Option.map_some]
    rw [tc_e_ag tc_ad_lt hh (List.getElem_mem hi)]
  · by_cases h2 : i = h.length
    · subst h2
      rw [List.getElem?_append_right (Nat.le_refl _), List.getElem?_append_right (by rw [e3]; exact Nat.le_refl _), e3, Nat.sub_self]
      simp only [List.getElem?_cons_zero, Option.map_some]
      rw [tc_ad_n, tc_e_ag tc_ad_lt hc List.mem_cons_self]
    · rw [List.getElem?_eq_none (by simp; omega), List.getElem?_eq_none (by simp [e3]; omega)]
      rfl
section TA
variable {M : tcM} {K : tcK} {nc ns : Nat} {h : List tcC} {pc : Nat} {L : List (Option tcV)} {st : List tcV}
/-- the goal behind a new cell -/
theorem tc_new_go {l : Launch} {p : Program} {e : Env} {s : State} {m : MethodId} {args : Array Value} {below : List Frame} {meth : Method} {c : Code} {D : va_G} {tg : Nat → ClassId} {ad0 ad : Nat → Nat} {H1 : Heap} {locs : List Loc} {ls : Array Slot} {cl : tcC} {q : Nat}
    (B : tc_B M p s m args meth c D tg) (hG : K.1.length ≤ h.length ∧ ∀ k, k < K.1.length → ad k = ad0 k) (hL : tc_L ad ls M.2.1 L) (hw : tc_okH h.length h = true ∧ tc_okL h.length L = true ∧ tc_okS h.length st = true) (hc : tc_okH h.length [cl] = true)
    (hP : va_P D vwCl (tc_w ad tg h ++ [(q, tc_e ad tg cl)]) H1) (hD : va_D (va_A (tc_w ad0 tg K.1) s.heap.size) (tc_w ad tg h ++ [(q, tc_e ad tg cl)])) (hS : va_S (va_A (tc_w ad0 tg K.1) s.heap.size) s.heap H1 locs)
    (k : tc_V M K nc ns (h ++ [cl]) pc L (.inr (some h.length) :: st)) : W p l e (tc_rm M.2.2.2.2.1 K.2.2.2.1 K.2.2.2.2) s m args below meth c H1 locs nc ns (MQ below (tc_Q D tg ad0 s.heap.size K) args s K.2.2.2.1 K.2.2.2.2 (va_A (tc_w ad0 tg K.1) s.heap.size)) (F0 m pc ls (.ref q :: st.map (tc_v ad))) := by
  have ew := tc_w_new (ad := ad) (tg := tg) (q := q) hw.1 hc
  have es : (Value.ref q :: st.map (tc_v ad)) = ((.inr (some h.length) :: st : List tcV).map (tc_v (tc_ad ad h.length q))) := by
    rw [List.map_cons, tc_vs_ag tc_ad_lt hw.2.2]
    show _ = Value.ref (tc_ad ad h.length q h.length) :: _
    rw [tc_ad_n]
  rw [es]
  exact k l p e s m args below meth c D tg ad0 (tc_ad ad h.length q) B ⟨by rw [List.length_append]; omega, fun i hi => by rw [tc_ad_lt i (by omega)]; exact hG.2 i hi⟩ H1 locs ls (by rw [ew]; exact hP) (by rw [ew]; exact hD) hS (tc_L_ag tc_ad_lt hw.2.1 hL)
theorem tv_newa_i {n : Nat} {atype : ArrayType} (hd : decode M.1 pc = .ok (.newarray atype, 2)) (hty : newarray.typeOf atype = .int) (ha : Cond.arrayClass .int ∈ tc_T) (hn : n ≤ 1000) (hw : tc_okH h.length h = true ∧ tc_okL h.length L = true ∧ tc_okS h.length st = true) (hc : nc + 1 ≤ K.2.2.2.1 ∧ ns + n ≤ K.2.2.2.2) (k : tc_V M K (nc + 1) (ns + n) (h ++ [.inl (0, n, .inl (fun _ => 0))]) (pc + 2) L (.inr (some h.length) :: st)) : tc_V M K nc ns h pc L (.inl (nI n) :: st) := by
  intro l p e s m args below meth c D tg ad0 ad B hG H locs ls hP hD hS hL
  refine va_newa (a0 := (n, .inl (fun _ => 0))) B.1 B.2.1 (by rw [hty]; exact B.2.2.2.2.1 _ ha) hty B.2.2.2.2.2.1 hP hD hS (fun q hq => Or.inr hq) (fun _ => rfl) (nI_pos (by omega)) (nI_clamp (by omega)) (Nat.le_trans (Nat.mul_le_mul_right _ hn) (by decide)) hc.1 hc.2 hd (fun q cA H1 hK1 hP1 hD1 hS1 => ?_)
  have h1 := (hK1.2 2 _ rfl).2
  have h2 := (B.2.2.2.2.2.1.2 0 _ rfl).2
  have ec : cA = tg 0 := Option.some.inj (h1.symm.trans h2)
  subst ec
  exact tc_new_go (cl := .inl (0, n, .inl (fun _ => 0))) B hG hL hw rfl hP1 hD1 hS1 k
theorem tv_newa_z {n : Nat} {atype : ArrayType} (hd : decode M.1 pc = .ok (.newarray atype, 2)) (hty : newarray.typeOf atype = .boolean) (ha : Cond.arrayClass .boolean ∈ tc_T) (hn : n ≤ 1000) (hw : tc_okH h.length h = true ∧ tc_okL h.length L = true ∧ tc_okS h.length st = true) (hc : nc + 1 ≤ K.2.2.2.1 ∧ ns + n ≤ K.2.2.2.2) (k : tc_V M K (nc + 1) (ns + n) (h ++ [.inl (1, n, .inl (fun _ => 0))]) (pc + 2) L (.inr (some h.length) :: st)) : tc_V M K nc ns h pc L (.inl (nI n) :: st) := by
  intro l p e s m args below meth c D tg ad0 ad B hG H locs ls hP hD hS hL
  refine va_newa (a0 := (n, .inl (fun _ => 0))) B.1 B.2.1 (by rw [hty]; exact B.2.2.2.2.1 _ ha) hty B.2.2.2.2.2.1 hP hD hS (fun q hq => Or.inr hq) (fun _ => rfl) (nI_pos (by omega)) (nI_clamp (by omega)) (Nat.le_trans (Nat.mul_le_mul_right _ hn) (by decide)) hc.1 hc.2 hd (fun q cA H1 hK1 hP1 hD1 hS1 => ?_)
  have h1 := (hK1.2 2 _ rfl).2
  have h2 := (B.2.2.2.2.2.1.2 1 _ rfl).2
  have ec : cA = tg 1 := Option.some.inj (h1.symm.trans h2)
  subst ec
  exact tc_new_go (cl := .inl (1, n, .inl (fun _ => 0))) B hG hL hw rfl hP1 hD1 hS1 k
theorem tv_new {idx ci N : Nat} {C : String} {T : u_T} {ty0 : Nat → FieldType} {fs : List tcV} (hc0 : vwCl[ci]? = some (C, T, N)) (hu : ∀ w ∈ u_ws C T N, w ∈ tc_T) (ht : ∀ j, j < N → parseFieldDescriptor (T j).2.2.1 = some (ty0 j)) (hl : Cond.classLink M.2.2.1 idx C ∈ tc_T) (hi : Cond.instantiable C N ∈ tc_T) (hini : Cond.initialized C ∈ tc_T) (hf : ∀ (ad : Nat → Nat) (j : Nat), j < N → defaultValue (ty0 j) = vp_V (fs.map (tc_v ad)) j) (hok : tc_okS 0 fs = true) (hd : decode M.1 pc = .ok (.new idx, 3)) (hw : tc_okH h.length h = true ∧ tc_okL h.length L = true ∧ tc_okS h.length st = true) (hc : nc + 1 ≤ K.2.2.2.1 ∧ ns + N ≤ K.2.2.2.2) (k : tc_V M K (nc + 1) (ns + N) (h ++ [.inr (ci, fs)]) (pc + 3) L (.inr (some h.length) :: st)) : tc_V M K nc ns h pc L st := by
  intro l p e s m args below meth c D tg ad0 ad B hG H locs ls hP hD hS hL
  refine va_new (fs := fs.map (tc_v ad)) B.1 B.2.1 B.2.2.2.2.1 hu ty0 ht B.2.2.2.1 (B.2.2.2.2.1 _ hl) (B.2.2.2.2.1 _ hi) (B.2.2.2.2.1 _ hini) B.2.2.2.2.2.1 hP hD hS (fun q hq => Or.inr hq) hc0 (hf ad) hc.1 hc.2 hd (fun q H1 hP1 hD1 hS1 => ?_)
  have hok2 : tc_okS h.length fs = true := List.all_eq_true.mpr (fun v hv => by
    have h1 := List.all_eq_true.mp hok v hv
    rcases v with x | (_ | k)
    · rfl
    · rfl
    · exact absurd (of_decide_eq_true (show decide (k < 0) = true from h1)) (Nat.not_lt_zero k))
  exact tc_new_go (cl := .inr (ci, fs)) B hG hL hw (by simp [tc_okH, hok2]) hP1 hD1 hS1 k
theorem tv_putF {idx ci j q N : Nat} {C : String} {T : u_T} {ty0 : Nat → FieldType} {ty : FieldType} {fs fs' : List tcV} {v : tcV} {h' : List tcC} (hF : tc_F M.2.2.1 idx ci j C T N) (hT : tc_FT T N ty0) (g3 : (T j).2.2.2 = true) (g5 : M.2.2.2.2.2 = "<init>") (g6 : (T j).1 = M.2.2.1) (g4 : parseFieldDescriptor (T j).2.2.1 = some ty) (gv : ∀ ad : Nat → Nat, narrow ty (tc_v ad v) = tc_v ad v ∧ fits ty (tc_v ad v) = true) (hd : decode M.1 pc = .ok (.putfield idx, 3)) (he : h[q]? = some (.inr (ci, fs))) (hk : j < fs.length) (hfs : fs.set j v = fs') (hh : h.set q (.inr (ci, fs')) = h') (kk : tc_V M K nc ns h' (pc + 3) L st) : tc_V M K nc ns h pc L (v :: .inr (some q) :: st) := by
  intro l p e s m args below meth c D tg ad0 ad B hG H locs ls hP hD hS hL
  obtain ⟨hc, hkN, hu, hl⟩ := hF
  obtain ⟨g1, g2⟩ := hT
  refine va_putF B.1 B.2.1 B.2.2.2.2.1 hu ty0 g1 g2 B.2.2.2.1 B.2.2.2.2.2.1 hP hD hS q (tc_w_at he) hc j hkN (B.2.2.2.2.1 _ hl) (fun _ z => z) g3 (by rw [B.2.2.2.2.2.2.2.2.2, g5]) g6 (ty := ty) (v := tc_v ad v) g4 (gv ad).1 (gv ad).2 (by simpa using hk) hd (fun H1 locs1 hP1 hD1 hS1 => ?_)
  have ew : (tc_w ad tg h).set q (ad q, .inr (ci, (fs.map (tc_v ad)).set j (tc_v ad v))) = tc_w ad tg h' := by
    have e1 : (fs.map (tc_v ad)).set j (tc_v ad v) = fs'.map (tc_v ad) := by
      rw [← hfs, List.map_set]
    rw [e1, ← hh]
    exact tc_w_set (c := .inr (ci, fs'))
  rw [ew] at hP1 hD1
  exact kk l p e s m args below meth c D tg ad0 ad B ⟨by rw [← hh, List.length_set]; exact hG.1, hG.2⟩ H1 locs1 ls hP1 hD1 hS1 hL
theorem tv_objI {idx q : Nat} (hl : Cond.methodLink M.2.2.1 idx objectInit ∈ tc_T) (hi : Cond.instanceMethod objectInit ∈ tc_T) (hcd : Cond.code objectInit ⟨#[0xb1]⟩ 1 none ∈ tc_T) (hd : decode M.1 pc = .ok (.invokespecial idx, 3)) (hdd : 0 < M.2.2.2.2.1) (hst : st.length ≤ 8) (k : tc_V M K nc ns h (pc + 3) L st) : tc_V M K nc ns h pc L (.inr (some q) :: st) := by
  intro l p e s m args below meth c D tg ad0 ad B hG H locs ls hP hD hS hL
  refine W.objInit B.1 B.2.1 B.2.2.2.1 (B.2.2.2.2.1 _ hl) (B.2.2.2.2.1 _ hi) (B.2.2.2.2.1 _ hcd) rfl (by rw [B.2.2.1]; exact hL.1) rfl hd hdd ?_ (k l p e s m args below meth c D tg ad0 ad B hG H locs ls hP hD hS hL)
  show 2 * 0 + ((st.map (tc_v ad)).map fun v => v.category).sum + 12 ≤ 32 * M.2.2.2.2.1
  rw [tc_catsum]
  omega
end TA
theorem tv_callI {M : tcM} {K : tcK} {nc ns mc ms : Nat} {h h' : List tcC} {pc : Nat} {L : List (Option tcV)} {rest : List tcV} {y : MethodName} {cc : ByteArray} {nL idx d' q : Nat} {n : Nat} (hn : n = 0) (hM : tc_M y cc nL none d' [.inr (some q)] (h, none, h', mc, ms)) (hY : tc_Y y cc nL none n) (hl : Cond.methodLink M.2.2.1 idx y ∈ tc_T) (hy : y.name = "<init>") (hi : Cond.instanceMethod y ∈ tc_T) (hdd : d' < M.2.2.2.2.1) (hrest : rest.length ≤ 8) (hwf : tc_okL h.length L = true ∧ tc_okS h.length rest = true) (hd : decode M.1 pc = .ok (.invokespecial idx, 3)) (hcs : nc + mc ≤ K.2.2.2.1 ∧ ns + ms ≤ K.2.2.2.2) (k : tc_V M K (nc + mc) (ns + ms) h' (pc + 3) L rest) : tc_V M K nc ns h pc L (.inr (some q) :: rest) := by
  intro l p e s m args below meth c D tg ad0 ad B hG H locs ls hP hD hS hL
  obtain ⟨y1, y2, y3, y4⟩ := hY
  obtain ⟨hx, hb, hml, hown, hts, hK, hN, hrt, hlk, hnm⟩ := id B
  exact tc_go (r := none) B hG hD hS hL hM.1 hwf (va_runI (b := ad q) (As := []) (n := n) ⟨hx, hb, hml, hown, hts⟩ (hM.2 l D tg ad H.size) ⟨callB_of n hts (tc_goodIn y1) rfl rfl rfl (hts _ y2) (hts _ hl) y3 (tc_room hdd y4), hy, hts _ hi⟩ ⟨tc_blind, tc_pre (As := [.inr (some q)]) B hP hD⟩ rfl hn.symm hL.1 rfl (tc_mroom hrest) hd hcs) k
theorem tv_callIN {M : tcM} {K : tcK} {nc ns mc ms : Nat} {h h' : List tcC} {pc : Nat} {L : List (Option tcV)} {rest : List tcV} {y : MethodName} {cc : ByteArray} {nL idx d' q : Nat} {n : Nat} (hn : n = 0) (hM : tc_M y cc nL none d' [.inr (some q)] (h, none, h', mc, ms)) (hY : tc_Y y cc nL none n) {host : String} (hl : (M.2.2.1, idx, y, host) ∈ tc_nest) (hy : y.name = "<init>") (hi : Cond.instanceMethod y ∈ tc_T) (hdd : d' < M.2.2.2.2.1) (hrest : rest.length ≤ 8) (hwf : tc_okL h.length L = true ∧ tc_okS h.length rest = true) (hd : decode M.1 pc = .ok (.invokespecial idx, 3)) (hcs : nc + mc ≤ K.2.2.2.1 ∧ ns + ms ≤ K.2.2.2.2) (k : tc_V M K (nc + mc) (ns + ms) h' (pc + 3) L rest) : tc_V M K nc ns h pc L (.inr (some q) :: rest) := by
  intro l p e s m args below meth c D tg ad0 ad B hG H locs ls hP hD hS hL
  obtain ⟨y1, y2, y3, y4⟩ := hY
  obtain ⟨hx, hb, hml, hown, hts, hK, hN, hrt, hlk, hnm⟩ := id B
  exact tc_go (r := none) B hG hD hS hL hM.1 hwf (va_runIN (b := ad q) (As := []) (n := n) ⟨hx, hb, hml, hown, hts⟩ (hM.2 l D tg ad H.size) ⟨va_cnB n hts (tc_goodIn y1) rfl rfl rfl (hN _ hl) (hts _ y2) y3 (tc_room hdd y4), hy, hts _ hi⟩ ⟨tc_blind, tc_pre (As := [.inr (some q)]) B hP hD⟩ rfl hn.symm hL.1 rfl (tc_mroom hrest) hd hcs) k
end
section
theorem uAK : ∀ w ∈ u_ws RAK TAK 4, w ∈ tc_T := fun w hw => tc_in ((by decide +kernel : ∀ w ∈ u_ws RAK TAK 4, w ∈ lw_tbl) w hw) ((by decide +kernel : ∀ w ∈ u_ws RAK TAK 4, goodWord w = true) w hw)
theorem ftAK : tc_FT TAK 4 tyAK := ⟨okAK, nmAK⟩
theorem uRO : ∀ w ∈ u_ws RRO TRO 2, w ∈ tc_T := fun w hw => tc_in ((by decide +kernel : ∀ w ∈ u_ws RRO TRO 2, w ∈ lw_tbl) w hw) ((by decide +kernel : ∀ w ∈ u_ws RRO TRO 2, goodWord w = true) w hw)
theorem ftRO : tc_FT TRO 2 tyRO := ⟨okRO, nmRO⟩
theorem uTC : ∀ w ∈ u_ws RTC TTC 19, w ∈ tc_T := fun w hw => tc_in ((by decide +kernel : ∀ w ∈ u_ws RTC TTC 19, w ∈ lw_tbl) w hw) ((by decide +kernel : ∀ w ∈ u_ws RTC TTC 19, goodWord w = true) w hw)
theorem ftTC : tc_FT TTC 19 tyTC := ⟨okTC, nmTC⟩
theorem uMO : ∀ w ∈ u_ws RMO TMO 25, w ∈ tc_T := fun w hw => tc_in ((by decide +kernel : ∀ w ∈ u_ws RMO TMO 25, w ∈ lw_tbl) w hw) ((by decide +kernel : ∀ w ∈ u_ws RMO TMO 25, goodWord w = true) w hw)
theorem ftMO : tc_FT TMO 25 tyMO := ⟨okMO, nmMO⟩
theorem fAK_9 : tc_F RAK 9 0 0 RAK TAK 4 := ⟨rfl, by decide, uAK, tc_in (List.mem_append_right _ (List.mem_append_left _ (List.mem_of_getElem? (i := 20) (by decide +kernel)))) rfl⟩
theorem fAK_15 : tc_F RAK 15 0 1 RAK TAK 4 := ⟨rfl, by decide, uAK, tc_in (List.mem_append_right _ (List.mem_append_left _ (List.mem_of_getElem? (i := 21) (by decide +kernel)))) rfl⟩
theorem fAK_18 : tc_F RAK 18 0 2 RAK TAK 4 := ⟨rfl, by decide, uAK, tc_in (List.mem_append_right _ (List.mem_append_left _ (List.mem_of_getElem? (i := 22) (by decide +kernel)))) rfl⟩
theorem fAK_22 : tc_F RAK 22 0 3 RAK TAK 4 := ⟨rfl, by decide, uAK, tc_in (List.mem_append_right _ (List.mem_append_left _ (List.mem_of_getElem? (i := 23) (by decide +kernel)))) rfl⟩
theorem fRO_11 : tc_F RRO 11 1 0 RRO TRO 2 := ⟨rfl, by decide, uRO, tc_in (List.mem_append_right _ (List.mem_append_left _ (List.mem_of_getElem? (i := 41) (by decide +kernel)))) rfl⟩
theorem fRO_15 : tc_F RRO 15 1 1 RRO TRO 2 := ⟨rfl, by decide, uRO, tc_in (List.mem_append_right _ (List.mem_append_left _ (List.mem_of_getElem? (i := 42) (by decide +kernel)))) rfl⟩
theorem fTC_9 : tc_F RTC 9 2 0 RTC TTC 19 := ⟨rfl, by decide, uTC, tc_in (List.mem_append_right _ (List.mem_append_left _ (List.mem_of_getElem? (i := 51) (by decide +kernel)))) rfl⟩
theorem fTC_13 : tc_F RTC 13 2 1 RTC TTC 19 := ⟨rfl, by decide, uTC, tc_in (List.mem_append_right _ (List.mem_append_left _ (List.mem_of_getElem? (i := 52) (by decide +kernel)))) rfl⟩
theorem fTC_17 : tc_F RTC 17 2 2 RTC TTC 19 := ⟨rfl, by decide, uTC, tc_in (List.mem_append_right _ (List.mem_append_left _ (List.mem_of_getElem? (i := 53) (by decide +kernel)))) rfl⟩
theorem fTC_20 : tc_F RTC 20 2 3 RTC TTC 19 := ⟨rfl, by decide, uTC, tc_in (List.mem_append_right _ (List.mem_append_left _ (List.mem_of_getElem? (i := 54) (by decide +kernel)))) rfl⟩
theorem fTC_23 : tc_F RTC 23 2 4 RTC TTC 19 := ⟨rfl, by decide, uTC, tc_in (List.mem_append_right _ (List.mem_append_left _ (List.mem_of_getElem? (i := 55) (by decide +kernel)))) rfl⟩
theorem fTC_26 : tc_F RTC 26 2 5 RTC TTC 19 := ⟨rfl, by decide, uTC, tc_in (List.mem_append_right _ (List.mem_append_left _ (List.mem_of_getElem? (i := 56) (by decide +kernel)))) rfl⟩
theorem fTC_29 : tc_F RTC 29 2 6 RTC TTC 19 := ⟨rfl, by decide, uTC, tc_in (List.mem_append_right _ (List.mem_append_left _ (List.mem_of_getElem? (i := 57) (by decide +kernel)))) rfl⟩
theorem fTC_32 : tc_F RTC 32 2 7 RTC TTC 19 := ⟨rfl, by decide, uTC, tc_in (List.mem_append_right _ (List.mem_append_left _ (List.mem_of_getElem? (i := 58) (by decide +kernel)))) rfl⟩
theorem fTC_35 : tc_F RTC 35 2 8 RTC TTC 19 := ⟨rfl, by decide, uTC, tc_in (List.mem_append_right _ (List.mem_append_left _ (List.mem_of_getElem? (i := 59) (by decide +kernel)))) rfl⟩
theorem fTC_38 : tc_F RTC 38 2 9 RTC TTC 19 := ⟨rfl, by decide, uTC, tc_in (List.mem_append_right _ (List.mem_append_left _ (List.mem_of_getElem? (i := 60) (by decide +kernel)))) rfl⟩
theorem fTC_44 : tc_F RTC 44 2 10 RTC TTC 19 := ⟨rfl, by decide, uTC, tc_in (List.mem_append_right _ (List.mem_append_left _ (List.mem_of_getElem? (i := 61) (by decide +kernel)))) rfl⟩
theorem fTC_48 : tc_F RTC 48 2 11 RTC TTC 19 := ⟨rfl, by decide, uTC, tc_in (List.mem_append_right _ (List.mem_append_left _ (List.mem_of_getElem? (i := 62) (by decide +kernel)))) rfl⟩
theorem fTC_51 : tc_F RTC 51 2 12 RTC TTC 19 := ⟨rfl, by decide, uTC, tc_in (List.mem_append_right _ (List.mem_append_left _ (List.mem_of_getElem? (i := 63) (by decide +kernel)))) rfl⟩
theorem fTC_57 : tc_F RTC 57 2 13 RTC TTC 19 := ⟨rfl, by decide, uTC, tc_in (List.mem_append_right _ (List.mem_append_left _ (List.mem_of_getElem? (i := 64) (by decide +kernel)))) rfl⟩
theorem fTC_61 : tc_F RTC 61 2 14 RTC TTC 19 := ⟨rfl, by decide, uTC, tc_in (List.mem_append_right _ (List.mem_append_left _ (List.mem_of_getElem? (i := 65) (by decide +kernel)))) rfl⟩
theorem fTC_64 : tc_F RTC 64 2 15 RTC TTC 19 := ⟨rfl, by decide, uTC, tc_in (List.mem_append_right _ (List.mem_append_left _ (List.mem_of_getElem? (i := 66) (by decide +kernel)))) rfl⟩
theorem fTC_67 : tc_F RTC 67 2 16 RTC TTC 19 := ⟨rfl, by decide, uTC, tc_in (List.mem_append_right _ (List.mem_append_left _ (List.mem_of_getElem? (i := 67) (by decide +kernel)))) rfl⟩
theorem fTC_70 : tc_F RTC 70 2 17 RTC TTC 19 := ⟨rfl, by decide, uTC, tc_in (List.mem_append_right _ (List.mem_append_left _ (List.mem_of_getElem? (i := 68) (by decide +kernel)))) rfl⟩
theorem fTC_73 : tc_F RTC 73 2 18 RTC TTC 19 := ⟨rfl, by decide, uTC, tc_in (List.mem_append_right _ (List.mem_append_left _ (List.mem_of_getElem? (i := 69) (by decide +kernel)))) rfl⟩
theorem fMO_68 : tc_F RMO 68 3 0 RMO TMO 25 := ⟨rfl, by decide, uMO, tc_in (List.mem_append_right _ (List.mem_append_right _ (List.mem_append_left _ (List.mem_of_getElem? (i := 40) (by decide +kernel))))) rfl⟩
theorem fMO_72 : tc_F RMO 72 3 1 RMO TMO 25 := ⟨rfl, by decide, uMO, tc_in (List.mem_append_right _ (List.mem_append_right _ (List.mem_append_left _ (List.mem_of_getElem? (i := 41) (by decide +kernel))))) rfl⟩
theorem fMO_75 : tc_F RMO 75 3 2 RMO TMO 25 := ⟨rfl, by decide, uMO, tc_in (List.mem_append_right _ (List.mem_append_right _ (List.mem_append_left _ (List.mem_of_getElem? (i := 42) (by decide +kernel))))) rfl⟩
theorem fMO_85 : tc_F RMO 85 3 3 RMO TMO 25 := ⟨rfl, by decide, uMO, tc_in (List.mem_append_right _ (List.mem_append_right _ (List.mem_append_left _ (List.mem_of_getElem? (i := 43) (by decide +kernel))))) rfl⟩
theorem fMO_92 : tc_F RMO 92 3 4 RMO TMO 25 := ⟨rfl, by decide, uMO, tc_in (List.mem_append_right _ (List.mem_append_right _ (List.mem_append_left _ (List.mem_of_getElem? (i := 44) (by decide +kernel))))) rfl⟩
theorem fMO_7 : tc_F RMO 7 3 5 RMO TMO 25 := ⟨rfl, by decide, uMO, tc_in (List.mem_append_right _ (List.mem_append_right _ (List.mem_append_left _ (List.mem_of_getElem? (i := 45) (by decide +kernel))))) rfl⟩
theorem fMO_13 : tc_F RMO 13 3 6 RMO TMO 25 := ⟨rfl, by decide, uMO, tc_in (List.mem_append_right _ (List.mem_append_right _ (List.mem_append_left _ (List.mem_of_getElem? (i := 46) (by decide +kernel))))) rfl⟩
theorem fMO_16 : tc_F RMO 16 3 7 RMO TMO 25 := ⟨rfl, by decide, uMO, tc_in (List.mem_append_right _ (List.mem_append_right _ (List.mem_append_left _ (List.mem_of_getElem? (i := 47) (by decide +kernel))))) rfl⟩
theorem fMO_19 : tc_F RMO 19 3 8 RMO TMO 25 := ⟨rfl, by decide, uMO, tc_in (List.mem_append_right _ (List.mem_append_right _ (List.mem_append_left _ (List.mem_of_getElem? (i := 48) (by decide +kernel))))) rfl⟩
theorem fMO_22 : tc_F RMO 22 3 9 RMO TMO 25 := ⟨rfl, by decide, uMO, tc_in (List.mem_append_right _ (List.mem_append_right _ (List.mem_append_left _ (List.mem_of_getElem? (i := 49) (by decide +kernel))))) rfl⟩
theorem fMO_25 : tc_F RMO 25 3 10 RMO TMO 25 := ⟨rfl, by decide, uMO, tc_in (List.mem_append_right _ (List.mem_append_right _ (List.mem_append_left _ (List.mem_of_getElem? (i := 50) (by decide +kernel))))) rfl⟩
theorem fMO_28 : tc_F RMO 28 3 11 RMO TMO 25 := ⟨rfl, by decide, uMO, tc_in (List.mem_append_right _ (List.mem_append_right _ (List.mem_append_left _ (List.mem_of_getElem? (i := 51) (by decide +kernel))))) rfl⟩
theorem fMO_31 : tc_F RMO 31 3 12 RMO TMO 25 := ⟨rfl, by decide, uMO, tc_in (List.mem_append_right _ (List.mem_append_right _ (List.mem_append_left _ (List.mem_of_getElem? (i := 52) (by decide +kernel))))) rfl⟩
theorem fMO_34 : tc_F RMO 34 3 13 RMO TMO 25 := ⟨rfl, by decide, uMO, tc_in (List.mem_append_right _ (List.mem_append_right _ (List.mem_append_left _ (List.mem_of_getElem? (i := 53) (by decide +kernel))))) rfl⟩
theorem fMO_37 : tc_F RMO 37 3 14 RMO TMO 25 := ⟨rfl, by decide, uMO, tc_in (List.mem_append_right _ (List.mem_append_right _ (List.mem_append_left _ (List.mem_of_getElem? (i := 54) (by decide +kernel))))) rfl⟩
theorem fMO_40 : tc_F RMO 40 3 15 RMO TMO 25 := ⟨rfl, by decide, uMO, tc_in (List.mem_append_right _ (List.mem_append_right _ (List.mem_append_left _ (List.mem_of_getElem? (i := 55) (by decide +kernel))))) rfl⟩
theorem fMO_43 : tc_F RMO 43 3 16 RMO TMO 25 := ⟨rfl, by decide, uMO, tc_in (List.mem_append_right _ (List.mem_append_right _ (List.mem_append_left _ (List.mem_of_getElem? (i := 56) (by decide +kernel))))) rfl⟩
theorem fMO_46 : tc_F RMO 46 3 17 RMO TMO 25 := ⟨rfl, by decide, uMO, tc_in (List.mem_append_right _ (List.mem_append_right _ (List.mem_append_left _ (List.mem_of_getElem? (i := 57) (by decide +kernel))))) rfl⟩
theorem fMO_50 : tc_F RMO 50 3 18 RMO TMO 25 := ⟨rfl, by decide, uMO, tc_in (List.mem_append_right _ (List.mem_append_right _ (List.mem_append_left _ (List.mem_of_getElem? (i := 58) (by decide +kernel))))) rfl⟩
theorem fMO_53 : tc_F RMO 53 3 19 RMO TMO 25 := ⟨rfl, by decide, uMO, tc_in (List.mem_append_right _ (List.mem_append_right _ (List.mem_append_left _ (List.mem_of_getElem? (i := 59) (by decide +kernel))))) rfl⟩
theorem fMO_56 : tc_F RMO 56 3 20 RMO TMO 25 := ⟨rfl, by decide, uMO, tc_in (List.mem_append_right _ (List.mem_append_right _ (List.mem_append_left _ (List.mem_of_getElem? (i := 60) (by decide +kernel))))) rfl⟩
theorem fMO_59 : tc_F RMO 59 3 21 RMO TMO 25 := ⟨rfl, by decide, uMO, tc_in (List.mem_append_right _ (List.mem_append_right _ (List.mem_append_left _ (List.mem_of_getElem? (i := 61) (by decide +kernel))))) rfl⟩
theorem fMO_62 : tc_F RMO 62 3 22 RMO TMO 25 := ⟨rfl, by decide, uMO, tc_in (List.mem_append_right _ (List.mem_append_right _ (List.mem_append_left _ (List.mem_of_getElem? (i := 62) (by decide +kernel))))) rfl⟩
theorem fMO_65 : tc_F RMO 65 3 23 RMO TMO 25 := ⟨rfl, by decide, uMO, tc_in (List.mem_append_right _ (List.mem_append_right _ (List.mem_append_left _ (List.mem_of_getElem? (i := 63) (by decide +kernel))))) rfl⟩
theorem fMO_124 : tc_F RMO 124 3 24 RMO TMO 25 := ⟨rfl, by decide, uMO, tc_in (List.mem_append_right _ (List.mem_append_right _ (List.mem_append_left _ (List.mem_of_getElem? (i := 64) (by decide +kernel))))) rfl⟩
theorem YTC_init : tc_Y yTC_init cTC_init 1 (none) 0 := ⟨tc_in (List.mem_append_right _ (List.mem_append_left _ (List.mem_of_getElem? (i := 10) rfl))) rfl, tc_in (List.mem_append_right _ (List.mem_append_left _ (List.mem_of_getElem? (i := 1) (by decide +kernel)))) rfl, by decide +kernel, by decide⟩
theorem ITC_init : Cond.instanceMethod yTC_init ∈ tc_T := tc_in (List.mem_append_right _ (List.mem_append_left _ (List.mem_of_getElem? (i := 9) (by decide +kernel)))) rfl
theorem YAK_init : tc_Y yAK_init cAK_init 1 (none) 0 := ⟨tc_in (List.mem_append_right _ (List.mem_append_left _ (List.mem_of_getElem? (i := 18) rfl))) rfl, tc_in (List.mem_append_right _ (List.mem_append_left _ (List.mem_of_getElem? (i := 2) (by decide +kernel)))) rfl, by decide +kernel, by decide⟩
theorem IAK_init : Cond.instanceMethod yAK_init ∈ tc_T := tc_in (List.mem_append_right _ (List.mem_append_left _ (List.mem_of_getElem? (i := 17) (by decide +kernel)))) rfl
theorem YRO_init : tc_Y yRO_init cRO_init 1 (none) 0 := ⟨tc_in (List.mem_append_right _ (List.mem_append_left _ (List.mem_of_getElem? (i := 39) rfl))) rfl, tc_in (List.mem_append_right _ (List.mem_append_left _ (List.mem_of_getElem? (i := 3) (by decide +kernel)))) rfl, by decide +kernel, by decide⟩
theorem IRO_init : Cond.instanceMethod yRO_init ∈ tc_T := tc_in (List.mem_append_right _ (List.mem_append_left _ (List.mem_of_getElem? (i := 38) (by decide +kernel)))) rfl
theorem YAR_fill : tc_Y yAR_fill cAR_fill 4 (none) 2 := ⟨tc_in (List.mem_append_right _ (List.mem_append_left _ (List.mem_of_getElem? (i := 50) rfl))) rfl, tc_in (List.mem_append_right _ (List.mem_append_left _ (List.mem_of_getElem? (i := 4) (by decide +kernel)))) rfl, by decide +kernel, by decide⟩
theorem YTC_platform : tc_Y yTC_platform cTC_platform 2 (some .int) 1 := ⟨tc_in (List.mem_append_right _ (List.mem_append_left _ (List.mem_of_getElem? (i := 112) rfl))) rfl, tc_in (List.mem_append_right _ (List.mem_append_left _ (List.mem_of_getElem? (i := 1) (by decide +kernel)))) rfl, by decide +kernel, by decide⟩
theorem ITC_platform : Cond.instanceMethod yTC_platform ∈ tc_T := tc_in (List.mem_append_right _ (List.mem_append_left _ (List.mem_of_getElem? (i := 110) (by decide +kernel)))) rfl
theorem STC_platform : Cond.selects yTC_platform.cls yTC_platform yTC_platform ∈ tc_T := tc_in (List.mem_append_right _ (List.mem_append_left _ (List.mem_of_getElem? (i := 111) (by decide +kernel)))) rfl
theorem YTC_tool : tc_Y yTC_tool cTC_tool 6 (some .int) 4 := ⟨tc_in (List.mem_append_right _ (List.mem_append_left _ (List.mem_of_getElem? (i := 116) rfl))) rfl, tc_in (List.mem_append_right _ (List.mem_append_left _ (List.mem_of_getElem? (i := 1) (by decide +kernel)))) rfl, by decide +kernel, by decide⟩
theorem ITC_tool : Cond.instanceMethod yTC_tool ∈ tc_T := tc_in (List.mem_append_right _ (List.mem_append_left _ (List.mem_of_getElem? (i := 114) (by decide +kernel)))) rfl
theorem STC_tool : Cond.selects yTC_tool.cls yTC_tool yTC_tool ∈ tc_T := tc_in (List.mem_append_right _ (List.mem_append_left _ (List.mem_of_getElem? (i := 115) (by decide +kernel)))) rfl
theorem YTC_isKind : tc_Y yTC_isKind cTC_isKind 1 (some .boolean) 1 := ⟨tc_in (List.mem_append_right _ (List.mem_append_left _ (List.mem_of_getElem? (i := 119) rfl))) rfl, tc_in (List.mem_append_right _ (List.mem_append_left _ (List.mem_of_getElem? (i := 1) (by decide +kernel)))) rfl, by decide +kernel, by decide⟩
theorem YTC_order : tc_Y yTC_order cTC_order 5 (some .boolean) 2 := ⟨tc_in (List.mem_append_right _ (List.mem_append_left _ (List.mem_of_getElem? (i := 123) rfl))) rfl, tc_in (List.mem_append_right _ (List.mem_append_left _ (List.mem_of_getElem? (i := 1) (by decide +kernel)))) rfl, by decide +kernel, by decide⟩
theorem ITC_order : Cond.instanceMethod yTC_order ∈ tc_T := tc_in (List.mem_append_right _ (List.mem_append_left _ (List.mem_of_getElem? (i := 121) (by decide +kernel)))) rfl
theorem STC_order : Cond.selects yTC_order.cls yTC_order yTC_order ∈ tc_T := tc_in (List.mem_append_right _ (List.mem_append_left _ (List.mem_of_getElem? (i := 122) (by decide +kernel)))) rfl
theorem YTC_isTool : tc_Y yTC_isTool cTC_isTool 2 (some .boolean) 1 := ⟨tc_in (List.mem_append_right _ (List.mem_append_left _ (List.mem_of_getElem? (i := 127) rfl))) rfl, tc_in (List.mem_append_right _ (List.mem_append_left _ (List.mem_of_getElem? (i := 1) (by decide +kernel)))) rfl, by decide +kernel, by decide⟩
theorem ITC_isTool : Cond.instanceMethod yTC_isTool ∈ tc_T := tc_in (List.mem_append_right _ (List.mem_append_left _ (List.mem_of_getElem? (i := 126) (by decide +kernel)))) rfl
theorem STC_isTool : Cond.selects yTC_isTool.cls yTC_isTool yTC_isTool ∈ tc_T := tc_in (List.mem_append_left _ (List.mem_of_getElem? (i := 0) (by decide +kernel))) rfl
theorem YTC_placeOf : tc_Y yTC_placeOf cTC_placeOf 3 (some .int) 1 := ⟨tc_in (List.mem_append_right _ (List.mem_append_left _ (List.mem_of_getElem? (i := 131) rfl))) rfl, tc_in (List.mem_append_right _ (List.mem_append_left _ (List.mem_of_getElem? (i := 1) (by decide +kernel)))) rfl, by decide +kernel, by decide⟩
theorem ITC_placeOf : Cond.instanceMethod yTC_placeOf ∈ tc_T := tc_in (List.mem_append_right _ (List.mem_append_left _ (List.mem_of_getElem? (i := 130) (by decide +kernel)))) rfl
theorem STC_placeOf : Cond.selects yTC_placeOf.cls yTC_placeOf yTC_placeOf ∈ tc_T := tc_in (List.mem_append_left _ (List.mem_of_getElem? (i := 1) (by decide +kernel))) rfl
theorem YTC_needs : tc_Y yTC_needs cTC_needs 3 (some .boolean) 2 := ⟨tc_in (List.mem_append_right _ (List.mem_append_left _ (List.mem_of_getElem? (i := 135) rfl))) rfl, tc_in (List.mem_append_right _ (List.mem_append_left _ (List.mem_of_getElem? (i := 1) (by decide +kernel)))) rfl, by decide +kernel, by decide⟩
theorem ITC_needs : Cond.instanceMethod yTC_needs ∈ tc_T := tc_in (List.mem_append_right _ (List.mem_append_left _ (List.mem_of_getElem? (i := 133) (by decide +kernel)))) rfl
theorem STC_needs : Cond.selects yTC_needs.cls yTC_needs yTC_needs ∈ tc_T := tc_in (List.mem_append_right _ (List.mem_append_left _ (List.mem_of_getElem? (i := 134) (by decide +kernel)))) rfl
theorem YTC_hasBit : tc_Y yTC_hasBit cTC_hasBit 2 (some .boolean) 2 := ⟨tc_in (List.mem_append_right _ (List.mem_append_left _ (List.mem_of_getElem? (i := 138) rfl))) rfl, tc_in (List.mem_append_right _ (List.mem_append_left _ (List.mem_of_getElem? (i := 1) (by decide +kernel)))) rfl, by decide +kernel, by decide⟩
theorem YTC_ask : tc_Y yTC_ask cTC_ask 4 (some .boolean) 3 := ⟨tc_in (List.mem_append_right _ (List.mem_append_left _ (List.mem_of_getElem? (i := 142) rfl))) rfl, tc_in (List.mem_append_right _ (List.mem_append_left _ (List.mem_of_getElem? (i := 1) (by decide +kernel)))) rfl, by decide +kernel, by decide⟩
theorem ITC_ask : Cond.instanceMethod yTC_ask ∈ tc_T := tc_in (List.mem_append_right _ (List.mem_append_left _ (List.mem_of_getElem? (i := 140) (by decide +kernel)))) rfl
theorem STC_ask : Cond.selects yTC_ask.cls yTC_ask yTC_ask ∈ tc_T := tc_in (List.mem_append_right _ (List.mem_append_left _ (List.mem_of_getElem? (i := 141) (by decide +kernel)))) rfl
theorem YAK_put : tc_Y yAK_put cAK_put 4 (none) 3 := ⟨tc_in (List.mem_append_right _ (List.mem_append_left _ (List.mem_of_getElem? (i := 146) rfl))) rfl, tc_in (List.mem_append_right _ (List.mem_append_left _ (List.mem_of_getElem? (i := 2) (by decide +kernel)))) rfl, by decide +kernel, by decide⟩
theorem IAK_put : Cond.instanceMethod yAK_put ∈ tc_T := tc_in (List.mem_append_right _ (List.mem_append_left _ (List.mem_of_getElem? (i := 145) (by decide +kernel)))) rfl
theorem SAK_put : Cond.selects yAK_put.cls yAK_put yAK_put ∈ tc_T := tc_in (List.mem_append_left _ (List.mem_of_getElem? (i := 2) (by decide +kernel))) rfl
theorem YAK_find : tc_Y yAK_find cAK_find 3 (some .int) 1 := ⟨tc_in (List.mem_append_right _ (List.mem_append_left _ (List.mem_of_getElem? (i := 150) rfl))) rfl, tc_in (List.mem_append_right _ (List.mem_append_left _ (List.mem_of_getElem? (i := 2) (by decide +kernel)))) rfl, by decide +kernel, by decide⟩
theorem IAK_find : Cond.instanceMethod yAK_find ∈ tc_T := tc_in (List.mem_append_right _ (List.mem_append_left _ (List.mem_of_getElem? (i := 149) (by decide +kernel)))) rfl
theorem SAK_find : Cond.selects yAK_find.cls yAK_find yAK_find ∈ tc_T := tc_in (List.mem_append_left _ (List.mem_of_getElem? (i := 3) (by decide +kernel))) rfl
theorem YTC_drop : tc_Y yTC_drop cTC_drop 2 (some .boolean) 1 := ⟨tc_in (List.mem_append_right _ (List.mem_append_left _ (List.mem_of_getElem? (i := 154) rfl))) rfl, tc_in (List.mem_append_right _ (List.mem_append_left _ (List.mem_of_getElem? (i := 1) (by decide +kernel)))) rfl, by decide +kernel, by decide⟩
theorem ITC_drop : Cond.instanceMethod yTC_drop ∈ tc_T := tc_in (List.mem_append_right _ (List.mem_append_left _ (List.mem_of_getElem? (i := 152) (by decide +kernel)))) rfl
theorem STC_drop : Cond.selects yTC_drop.cls yTC_drop yTC_drop ∈ tc_T := tc_in (List.mem_append_right _ (List.mem_append_left _ (List.mem_of_getElem? (i := 153) (by decide +kernel)))) rfl
theorem YAK_remove : tc_Y yAK_remove cAK_remove 4 (some .boolean) 1 := ⟨tc_in (List.mem_append_right _ (List.mem_append_left _ (List.mem_of_getElem? (i := 158) rfl))) rfl, tc_in (List.mem_append_right _ (List.mem_append_left _ (List.mem_of_getElem? (i := 2) (by decide +kernel)))) rfl, by decide +kernel, by decide⟩
theorem IAK_remove : Cond.instanceMethod yAK_remove ∈ tc_T := tc_in (List.mem_append_right _ (List.mem_append_left _ (List.mem_of_getElem? (i := 157) (by decide +kernel)))) rfl
theorem SAK_remove : Cond.selects yAK_remove.cls yAK_remove yAK_remove ∈ tc_T := tc_in (List.mem_append_left _ (List.mem_of_getElem? (i := 4) (by decide +kernel))) rfl
theorem YTC_force : tc_Y yTC_force cTC_force 3 (some .boolean) 2 := ⟨tc_in (List.mem_append_right _ (List.mem_append_left _ (List.mem_of_getElem? (i := 162) rfl))) rfl, tc_in (List.mem_append_right _ (List.mem_append_left _ (List.mem_of_getElem? (i := 1) (by decide +kernel)))) rfl, by decide +kernel, by decide⟩
theorem ITC_force : Cond.instanceMethod yTC_force ∈ tc_T := tc_in (List.mem_append_right _ (List.mem_append_left _ (List.mem_of_getElem? (i := 160) (by decide +kernel)))) rfl
theorem STC_force : Cond.selects yTC_force.cls yTC_force yTC_force ∈ tc_T := tc_in (List.mem_append_right _ (List.mem_append_left _ (List.mem_of_getElem? (i := 161) (by decide +kernel)))) rfl
theorem YTC_choose : tc_Y yTC_choose cTC_choose 3 (some .int) 1 := ⟨tc_in (List.mem_append_right _ (List.mem_append_left _ (List.mem_of_getElem? (i := 166) rfl))) rfl, tc_in (List.mem_append_right _ (List.mem_append_left _ (List.mem_of_getElem? (i := 1) (by decide +kernel)))) rfl, by decide +kernel, by decide⟩
theorem ITC_choose : Cond.instanceMethod yTC_choose ∈ tc_T := tc_in (List.mem_append_right _ (List.mem_append_left _ (List.mem_of_getElem? (i := 164) (by decide +kernel)))) rfl
theorem STC_choose : Cond.selects yTC_choose.cls yTC_choose yTC_choose ∈ tc_T := tc_in (List.mem_append_right _ (List.mem_append_left _ (List.mem_of_getElem? (i := 165) (by decide +kernel)))) rfl
theorem YTC_isPlatform : tc_Y yTC_isPlatform cTC_isPlatform 2 (some .boolean) 1 := ⟨tc_in (List.mem_append_right _ (List.mem_append_left _ (List.mem_of_getElem? (i := 170) rfl))) rfl, tc_in (List.mem_append_right _ (List.mem_append_left _ (List.mem_of_getElem? (i := 1) (by decide +kernel)))) rfl, by decide +kernel, by decide⟩
theorem ITC_isPlatform : Cond.instanceMethod yTC_isPlatform ∈ tc_T := tc_in (List.mem_append_right _ (List.mem_append_left _ (List.mem_of_getElem? (i := 169) (by decide +kernel)))) rfl
theorem STC_isPlatform : Cond.selects yTC_isPlatform.cls yTC_isPlatform yTC_isPlatform ∈ tc_T := tc_in (List.mem_append_left _ (List.mem_of_getElem? (i := 5) (by decide +kernel))) rfl
theorem YTC_settleBuilt : tc_Y yTC_settleBuilt cTC_settleBuilt 3 (none) 0 := ⟨tc_in (List.mem_append_right _ (List.mem_append_left _ (List.mem_of_getElem? (i := 174) rfl))) rfl, tc_in (List.mem_append_right _ (List.mem_append_left _ (List.mem_of_getElem? (i := 1) (by decide +kernel)))) rfl, by decide +kernel, by decide⟩
theorem ITC_settleBuilt : Cond.instanceMethod yTC_settleBuilt ∈ tc_T := tc_in (List.mem_append_right _ (List.mem_append_left _ (List.mem_of_getElem? (i := 173) (by decide +kernel)))) rfl
theorem STC_settleBuilt : Cond.selects yTC_settleBuilt.cls yTC_settleBuilt yTC_settleBuilt ∈ tc_T := tc_in (List.mem_append_left _ (List.mem_of_getElem? (i := 6) (by decide +kernel))) rfl
theorem YTC_platformsHaving : tc_Y yTC_platformsHaving cTC_platformsHaving 4 (some .int) 1 := ⟨tc_in (List.mem_append_right _ (List.mem_append_left _ (List.mem_of_getElem? (i := 178) rfl))) rfl, tc_in (List.mem_append_right _ (List.mem_append_left _ (List.mem_of_getElem? (i := 1) (by decide +kernel)))) rfl, by decide +kernel, by decide⟩
theorem ITC_platformsHaving : Cond.instanceMethod yTC_platformsHaving ∈ tc_T := tc_in (List.mem_append_right _ (List.mem_append_left _ (List.mem_of_getElem? (i := 177) (by decide +kernel)))) rfl
theorem STC_platformsHaving : Cond.selects yTC_platformsHaving.cls yTC_platformsHaving yTC_platformsHaving ∈ tc_T := tc_in (List.mem_append_left _ (List.mem_of_getElem? (i := 7) (by decide +kernel))) rfl
theorem YTC_growBuilt : tc_Y yTC_growBuilt cTC_growBuilt 4 (some .boolean) 0 := ⟨tc_in (List.mem_append_right _ (List.mem_append_left _ (List.mem_of_getElem? (i := 182) rfl))) rfl, tc_in (List.mem_append_right _ (List.mem_append_left _ (List.mem_of_getElem? (i := 1) (by decide +kernel)))) rfl, by decide +kernel, by decide⟩
theorem ITC_growBuilt : Cond.instanceMethod yTC_growBuilt ∈ tc_T := tc_in (List.mem_append_right _ (List.mem_append_left _ (List.mem_of_getElem? (i := 181) (by decide +kernel)))) rfl
theorem STC_growBuilt : Cond.selects yTC_growBuilt.cls yTC_growBuilt yTC_growBuilt ∈ tc_T := tc_in (List.mem_append_left _ (List.mem_of_getElem? (i := 8) (by decide +kernel))) rfl
theorem YTC_platformsWithSupplies : tc_Y yTC_platformsWithSupplies cTC_platformsWithSupplies 4 (some .int) 1 := ⟨tc_in (List.mem_append_right _ (List.mem_append_left _ (List.mem_of_getElem? (i := 186) rfl))) rfl, tc_in (List.mem_append_right _ (List.mem_append_left _ (List.mem_of_getElem? (i := 1) (by decide +kernel)))) rfl, by decide +kernel, by decide⟩
theorem ITC_platformsWithSupplies : Cond.instanceMethod yTC_platformsWithSupplies ∈ tc_T := tc_in (List.mem_append_right _ (List.mem_append_left _ (List.mem_of_getElem? (i := 185) (by decide +kernel)))) rfl
theorem STC_platformsWithSupplies : Cond.selects yTC_platformsWithSupplies.cls yTC_platformsWithSupplies yTC_platformsWithSupplies ∈ tc_T := tc_in (List.mem_append_left _ (List.mem_of_getElem? (i := 9) (by decide +kernel))) rfl
theorem YRO_clear : tc_Y yRO_clear cRO_clear 1 (none) 0 := ⟨tc_in (List.mem_append_right _ (List.mem_append_left _ (List.mem_of_getElem? (i := 190) rfl))) rfl, tc_in (List.mem_append_right _ (List.mem_append_left _ (List.mem_of_getElem? (i := 3) (by decide +kernel)))) rfl, by decide +kernel, by decide⟩
theorem IRO_clear : Cond.instanceMethod yRO_clear ∈ tc_T := tc_in (List.mem_append_right _ (List.mem_append_left _ (List.mem_of_getElem? (i := 189) (by decide +kernel)))) rfl
theorem SRO_clear : Cond.selects yRO_clear.cls yRO_clear yRO_clear ∈ tc_T := tc_in (List.mem_append_left _ (List.mem_of_getElem? (i := 10) (by decide +kernel))) rfl
theorem YTC_takeTools : tc_Y yTC_takeTools cTC_takeTools 5 (some .boolean) 2 := ⟨tc_in (List.mem_append_right _ (List.mem_append_left _ (List.mem_of_getElem? (i := 194) rfl))) rfl, tc_in (List.mem_append_right _ (List.mem_append_left _ (List.mem_of_getElem? (i := 1) (by decide +kernel)))) rfl, by decide +kernel, by decide⟩
theorem ITC_takeTools : Cond.instanceMethod yTC_takeTools ∈ tc_T := tc_in (List.mem_append_right _ (List.mem_append_left _ (List.mem_of_getElem? (i := 193) (by decide +kernel)))) rfl
theorem STC_takeTools : Cond.selects yTC_takeTools.cls yTC_takeTools yTC_takeTools ∈ tc_T := tc_in (List.mem_append_left _ (List.mem_of_getElem? (i := 11) (by decide +kernel))) rfl
theorem YAK_size : tc_Y yAK_size cAK_size 1 (some .int) 0 := ⟨tc_in (List.mem_append_right _ (List.mem_append_left _ (List.mem_of_getElem? (i := 198) rfl))) rfl, tc_in (List.mem_append_right _ (List.mem_append_left _ (List.mem_of_getElem? (i := 2) (by decide +kernel)))) rfl, by decide +kernel, by decide⟩
theorem IAK_size : Cond.instanceMethod yAK_size ∈ tc_T := tc_in (List.mem_append_right _ (List.mem_append_left _ (List.mem_of_getElem? (i := 197) (by decide +kernel)))) rfl
theorem SAK_size : Cond.selects yAK_size.cls yAK_size yAK_size ∈ tc_T := tc_in (List.mem_append_left _ (List.mem_of_getElem? (i := 12) (by decide +kernel))) rfl
theorem YAK_kindAt : tc_Y yAK_kindAt cAK_kindAt 2 (some .int) 1 := ⟨tc_in (List.mem_append_right _ (List.mem_append_left _ (List.mem_of_getElem? (i := 202) rfl))) rfl, tc_in (List.mem_append_right _ (List.mem_append_left _ (List.mem_of_getElem? (i := 2) (by decide +kernel)))) rfl, by decide +kernel, by decide⟩
theorem IAK_kindAt : Cond.instanceMethod yAK_kindAt ∈ tc_T := tc_in (List.mem_append_right _ (List.mem_append_left _ (List.mem_of_getElem? (i := 201) (by decide +kernel)))) rfl
theorem SAK_kindAt : Cond.selects yAK_kindAt.cls yAK_kindAt yAK_kindAt ∈ tc_T := tc_in (List.mem_append_left _ (List.mem_of_getElem? (i := 13) (by decide +kernel))) rfl
theorem YTC_firstGood : tc_Y yTC_firstGood cTC_firstGood 7 (some .int) 3 := ⟨tc_in (List.mem_append_right _ (List.mem_append_left _ (List.mem_of_getElem? (i := 206) rfl))) rfl, tc_in (List.mem_append_right _ (List.mem_append_left _ (List.mem_of_getElem? (i := 1) (by decide +kernel)))) rfl, by decide +kernel, by decide⟩
theorem ITC_firstGood : Cond.instanceMethod yTC_firstGood ∈ tc_T := tc_in (List.mem_append_right _ (List.mem_append_left _ (List.mem_of_getElem? (i := 205) (by decide +kernel)))) rfl
theorem STC_firstGood : Cond.selects yTC_firstGood.cls yTC_firstGood yTC_firstGood ∈ tc_T := tc_in (List.mem_append_left _ (List.mem_of_getElem? (i := 14) (by decide +kernel))) rfl
theorem YTC_whyNot : tc_Y yTC_whyNot cTC_whyNot 5 (some .int) 3 := ⟨tc_in (List.mem_append_right _ (List.mem_append_left _ (List.mem_of_getElem? (i := 210) rfl))) rfl, tc_in (List.mem_append_right _ (List.mem_append_left _ (List.mem_of_getElem? (i := 1) (by decide +kernel)))) rfl, by decide +kernel, by decide⟩
theorem ITC_whyNot : Cond.instanceMethod yTC_whyNot ∈ tc_T := tc_in (List.mem_append_right _ (List.mem_append_left _ (List.mem_of_getElem? (i := 209) (by decide +kernel)))) rfl
theorem STC_whyNot : Cond.selects yTC_whyNot.cls yTC_whyNot yTC_whyNot ∈ tc_T := tc_in (List.mem_append_left _ (List.mem_of_getElem? (i := 15) (by decide +kernel))) rfl
theorem YAK_leastVersion : tc_Y yAK_leastVersion cAK_leastVersion 2 (some .int) 1 := ⟨tc_in (List.mem_append_right _ (List.mem_append_left _ (List.mem_of_getElem? (i := 214) rfl))) rfl, tc_in (List.mem_append_right _ (List.mem_append_left _ (List.mem_of_getElem? (i := 2) (by decide +kernel)))) rfl, by decide +kernel, by decide⟩
theorem IAK_leastVersion : Cond.instanceMethod yAK_leastVersion ∈ tc_T := tc_in (List.mem_append_right _ (List.mem_append_left _ (List.mem_of_getElem? (i := 213) (by decide +kernel)))) rfl
theorem SAK_leastVersion : Cond.selects yAK_leastVersion.cls yAK_leastVersion yAK_leastVersion ∈ tc_T := tc_in (List.mem_append_left _ (List.mem_of_getElem? (i := 16) (by decide +kernel))) rfl
theorem YTC_lackOf : tc_Y yTC_lackOf cTC_lackOf 5 (some .int) 4 := ⟨tc_in (List.mem_append_right _ (List.mem_append_left _ (List.mem_of_getElem? (i := 218) rfl))) rfl, tc_in (List.mem_append_right _ (List.mem_append_left _ (List.mem_of_getElem? (i := 1) (by decide +kernel)))) rfl, by decide +kernel, by decide⟩
theorem ITC_lackOf : Cond.instanceMethod yTC_lackOf ∈ tc_T := tc_in (List.mem_append_right _ (List.mem_append_left _ (List.mem_of_getElem? (i := 217) (by decide +kernel)))) rfl
theorem STC_lackOf : Cond.selects yTC_lackOf.cls yTC_lackOf yTC_lackOf ∈ tc_T := tc_in (List.mem_append_left _ (List.mem_of_getElem? (i := 17) (by decide +kernel))) rfl
theorem YTC_lowestBit : tc_Y yTC_lowestBit cTC_lowestBit 2 (some .int) 1 := ⟨tc_in (List.mem_append_right _ (List.mem_append_left _ (List.mem_of_getElem? (i := 221) rfl))) rfl, tc_in (List.mem_append_right _ (List.mem_append_left _ (List.mem_of_getElem? (i := 1) (by decide +kernel)))) rfl, by decide +kernel, by decide⟩
theorem YTC_lowestUnsupplied : tc_Y yTC_lowestUnsupplied cTC_lowestUnsupplied 4 (some .int) 2 := ⟨tc_in (List.mem_append_right _ (List.mem_append_left _ (List.mem_of_getElem? (i := 225) rfl))) rfl, tc_in (List.mem_append_right _ (List.mem_append_left _ (List.mem_of_getElem? (i := 1) (by decide +kernel)))) rfl, by decide +kernel, by decide⟩
theorem ITC_lowestUnsupplied : Cond.instanceMethod yTC_lowestUnsupplied ∈ tc_T := tc_in (List.mem_append_right _ (List.mem_append_left _ (List.mem_of_getElem? (i := 224) (by decide +kernel)))) rfl
theorem STC_lowestUnsupplied : Cond.selects yTC_lowestUnsupplied.cls yTC_lowestUnsupplied yTC_lowestUnsupplied ∈ tc_T := tc_in (List.mem_append_left _ (List.mem_of_getElem? (i := 18) (by decide +kernel))) rfl
theorem YRO_add : tc_Y yRO_add cRO_add 6 (none) 4 := ⟨tc_in (List.mem_append_right _ (List.mem_append_left _ (List.mem_of_getElem? (i := 229) rfl))) rfl, tc_in (List.mem_append_right _ (List.mem_append_left _ (List.mem_of_getElem? (i := 3) (by decide +kernel)))) rfl, by decide +kernel, by decide⟩
theorem IRO_add : Cond.instanceMethod yRO_add ∈ tc_T := tc_in (List.mem_append_right _ (List.mem_append_left _ (List.mem_of_getElem? (i := 228) (by decide +kernel)))) rfl
theorem SRO_add : Cond.selects yRO_add.cls yRO_add yRO_add ∈ tc_T := tc_in (List.mem_append_left _ (List.mem_of_getElem? (i := 19) (by decide +kernel))) rfl
theorem YAK_isNeeded : tc_Y yAK_isNeeded cAK_isNeeded 2 (some .boolean) 1 := ⟨tc_in (List.mem_append_right _ (List.mem_append_left _ (List.mem_of_getElem? (i := 233) rfl))) rfl, tc_in (List.mem_append_right _ (List.mem_append_left _ (List.mem_of_getElem? (i := 2) (by decide +kernel)))) rfl, by decide +kernel, by decide⟩
theorem IAK_isNeeded : Cond.instanceMethod yAK_isNeeded ∈ tc_T := tc_in (List.mem_append_right _ (List.mem_append_left _ (List.mem_of_getElem? (i := 232) (by decide +kernel)))) rfl
theorem SAK_isNeeded : Cond.selects yAK_isNeeded.cls yAK_isNeeded yAK_isNeeded ∈ tc_T := tc_in (List.mem_append_left _ (List.mem_of_getElem? (i := 20) (by decide +kernel))) rfl
theorem YTC_chosen : tc_Y yTC_chosen cTC_chosen 2 (some .int) 1 := ⟨tc_in (List.mem_append_right _ (List.mem_append_left _ (List.mem_of_getElem? (i := 237) rfl))) rfl, tc_in (List.mem_append_right _ (List.mem_append_left _ (List.mem_of_getElem? (i := 1) (by decide +kernel)))) rfl, by decide +kernel, by decide⟩
theorem ITC_chosen : Cond.instanceMethod yTC_chosen ∈ tc_T := tc_in (List.mem_append_right _ (List.mem_append_left _ (List.mem_of_getElem? (i := 235) (by decide +kernel)))) rfl
theorem STC_chosen : Cond.selects yTC_chosen.cls yTC_chosen yTC_chosen ∈ tc_T := tc_in (List.mem_append_right _ (List.mem_append_left _ (List.mem_of_getElem? (i := 236) (by decide +kernel)))) rfl
theorem YTC_rows : tc_Y yTC_rows cTC_rows 1 (some .int) 0 := ⟨tc_in (List.mem_append_right _ (List.mem_append_right _ (List.mem_append_left _ (List.mem_of_getElem? (i := 1) rfl)))) rfl, tc_in (List.mem_append_right _ (List.mem_append_left _ (List.mem_of_getElem? (i := 1) (by decide +kernel)))) rfl, by decide +kernel, by decide⟩
theorem ITC_rows : Cond.instanceMethod yTC_rows ∈ tc_T := tc_in (List.mem_append_right _ (List.mem_append_left _ (List.mem_of_getElem? (i := 239) (by decide +kernel)))) rfl
theorem STC_rows : Cond.selects yTC_rows.cls yTC_rows yTC_rows ∈ tc_T := tc_in (List.mem_append_right _ (List.mem_append_right _ (List.mem_append_left _ (List.mem_of_getElem? (i := 0) (by decide +kernel))))) rfl
theorem YRO_size : tc_Y yRO_size cRO_size 1 (some .int) 0 := ⟨tc_in (List.mem_append_right _ (List.mem_append_right _ (List.mem_append_left _ (List.mem_of_getElem? (i := 5) rfl)))) rfl, tc_in (List.mem_append_right _ (List.mem_append_left _ (List.mem_of_getElem? (i := 3) (by decide +kernel)))) rfl, by decide +kernel, by decide⟩
theorem IRO_size : Cond.instanceMethod yRO_size ∈ tc_T := tc_in (List.mem_append_right _ (List.mem_append_right _ (List.mem_append_left _ (List.mem_of_getElem? (i := 4) (by decide +kernel))))) rfl
theorem SRO_size : Cond.selects yRO_size.cls yRO_size yRO_size ∈ tc_T := tc_in (List.mem_append_left _ (List.mem_of_getElem? (i := 21) (by decide +kernel))) rfl
theorem YTC_row : tc_Y yTC_row cTC_row 3 (some .int) 2 := ⟨tc_in (List.mem_append_right _ (List.mem_append_right _ (List.mem_append_left _ (List.mem_of_getElem? (i := 9) rfl)))) rfl, tc_in (List.mem_append_right _ (List.mem_append_left _ (List.mem_of_getElem? (i := 1) (by decide +kernel)))) rfl, by decide +kernel, by decide⟩
theorem ITC_row : Cond.instanceMethod yTC_row ∈ tc_T := tc_in (List.mem_append_right _ (List.mem_append_right _ (List.mem_append_left _ (List.mem_of_getElem? (i := 7) (by decide +kernel))))) rfl
theorem STC_row : Cond.selects yTC_row.cls yTC_row yTC_row ∈ tc_T := tc_in (List.mem_append_right _ (List.mem_append_right _ (List.mem_append_left _ (List.mem_of_getElem? (i := 8) (by decide +kernel))))) rfl
theorem YRO_cell : tc_Y yRO_cell cRO_cell 3 (some .int) 2 := ⟨tc_in (List.mem_append_right _ (List.mem_append_right _ (List.mem_append_left _ (List.mem_of_getElem? (i := 13) rfl)))) rfl, tc_in (List.mem_append_right _ (List.mem_append_left _ (List.mem_of_getElem? (i := 3) (by decide +kernel)))) rfl, by decide +kernel, by decide⟩
theorem IRO_cell : Cond.instanceMethod yRO_cell ∈ tc_T := tc_in (List.mem_append_right _ (List.mem_append_right _ (List.mem_append_left _ (List.mem_of_getElem? (i := 12) (by decide +kernel))))) rfl
theorem SRO_cell : Cond.selects yRO_cell.cls yRO_cell yRO_cell ∈ tc_T := tc_in (List.mem_append_left _ (List.mem_of_getElem? (i := 22) (by decide +kernel))) rfl
theorem YTC_built : tc_Y yTC_built cTC_built 3 (some .boolean) 2 := ⟨tc_in (List.mem_append_right _ (List.mem_append_right _ (List.mem_append_left _ (List.mem_of_getElem? (i := 17) rfl)))) rfl, tc_in (List.mem_append_right _ (List.mem_append_left _ (List.mem_of_getElem? (i := 1) (by decide +kernel)))) rfl, by decide +kernel, by decide⟩
theorem ITC_built : Cond.instanceMethod yTC_built ∈ tc_T := tc_in (List.mem_append_right _ (List.mem_append_right _ (List.mem_append_left _ (List.mem_of_getElem? (i := 15) (by decide +kernel))))) rfl
theorem STC_built : Cond.selects yTC_built.cls yTC_built yTC_built ∈ tc_T := tc_in (List.mem_append_right _ (List.mem_append_right _ (List.mem_append_left _ (List.mem_of_getElem? (i := 16) (by decide +kernel))))) rfl
theorem YTC_ring : tc_Y yTC_ring cTC_ring 4 (some .int) 1 := ⟨tc_in (List.mem_append_right _ (List.mem_append_right _ (List.mem_append_left _ (List.mem_of_getElem? (i := 21) rfl)))) rfl, tc_in (List.mem_append_right _ (List.mem_append_left _ (List.mem_of_getElem? (i := 1) (by decide +kernel)))) rfl, by decide +kernel, by decide⟩
theorem ITC_ring : Cond.instanceMethod yTC_ring ∈ tc_T := tc_in (List.mem_append_right _ (List.mem_append_right _ (List.mem_append_left _ (List.mem_of_getElem? (i := 19) (by decide +kernel))))) rfl
theorem STC_ring : Cond.selects yTC_ring.cls yTC_ring yTC_ring ∈ tc_T := tc_in (List.mem_append_right _ (List.mem_append_right _ (List.mem_append_left _ (List.mem_of_getElem? (i := 20) (by decide +kernel))))) rfl
theorem YTC_settleLeads : tc_Y yTC_settleLeads cTC_settleLeads 3 (none) 0 := ⟨tc_in (List.mem_append_right _ (List.mem_append_right _ (List.mem_append_left _ (List.mem_of_getElem? (i := 25) rfl)))) rfl, tc_in (List.mem_append_right _ (List.mem_append_left _ (List.mem_of_getElem? (i := 1) (by decide +kernel)))) rfl, by decide +kernel, by decide⟩
theorem ITC_settleLeads : Cond.instanceMethod yTC_settleLeads ∈ tc_T := tc_in (List.mem_append_right _ (List.mem_append_right _ (List.mem_append_left _ (List.mem_of_getElem? (i := 24) (by decide +kernel))))) rfl
theorem STC_settleLeads : Cond.selects yTC_settleLeads.cls yTC_settleLeads yTC_settleLeads ∈ tc_T := tc_in (List.mem_append_left _ (List.mem_of_getElem? (i := 23) (by decide +kernel))) rfl
theorem YTC_stepsFrom : tc_Y yTC_stepsFrom cTC_stepsFrom 6 (some .int) 1 := ⟨tc_in (List.mem_append_right _ (List.mem_append_right _ (List.mem_append_left _ (List.mem_of_getElem? (i := 29) rfl)))) rfl, tc_in (List.mem_append_right _ (List.mem_append_left _ (List.mem_of_getElem? (i := 1) (by decide +kernel)))) rfl, by decide +kernel, by decide⟩
theorem ITC_stepsFrom : Cond.instanceMethod yTC_stepsFrom ∈ tc_T := tc_in (List.mem_append_right _ (List.mem_append_right _ (List.mem_append_left _ (List.mem_of_getElem? (i := 28) (by decide +kernel))))) rfl
theorem STC_stepsFrom : Cond.selects yTC_stepsFrom.cls yTC_stepsFrom yTC_stepsFrom ∈ tc_T := tc_in (List.mem_append_left _ (List.mem_of_getElem? (i := 24) (by decide +kernel))) rfl
theorem YTC_unbuiltOn : tc_Y yTC_unbuiltOn cTC_unbuiltOn 2 (some .int) 1 := ⟨tc_in (List.mem_append_right _ (List.mem_append_right _ (List.mem_append_left _ (List.mem_of_getElem? (i := 33) rfl)))) rfl, tc_in (List.mem_append_right _ (List.mem_append_left _ (List.mem_of_getElem? (i := 1) (by decide +kernel)))) rfl, by decide +kernel, by decide⟩
theorem ITC_unbuiltOn : Cond.instanceMethod yTC_unbuiltOn ∈ tc_T := tc_in (List.mem_append_right _ (List.mem_append_right _ (List.mem_append_left _ (List.mem_of_getElem? (i := 32) (by decide +kernel))))) rfl
theorem STC_unbuiltOn : Cond.selects yTC_unbuiltOn.cls yTC_unbuiltOn yTC_unbuiltOn ∈ tc_T := tc_in (List.mem_append_left _ (List.mem_of_getElem? (i := 25) (by decide +kernel))) rfl
theorem YMO_init : tc_Y yMO_init cMO_init 2 (none) 0 := ⟨tc_in (List.mem_append_right _ (List.mem_append_right _ (List.mem_append_left _ (List.mem_of_getElem? (i := 38) rfl)))) rfl, tc_in (List.mem_append_right _ (List.mem_append_left _ (List.mem_of_getElem? (i := 5) (by decide +kernel)))) rfl, by decide +kernel, by decide⟩
theorem IMO_init : Cond.instanceMethod yMO_init ∈ tc_T := tc_in (List.mem_append_right _ (List.mem_append_right _ (List.mem_append_left _ (List.mem_of_getElem? (i := 37) (by decide +kernel))))) rfl
theorem YMO_platform : tc_Y yMO_platform cMO_platform 2 (some .int) 1 := ⟨tc_in (List.mem_append_right _ (List.mem_append_right _ (List.mem_append_left _ (List.mem_of_getElem? (i := 119) rfl)))) rfl, tc_in (List.mem_append_right _ (List.mem_append_left _ (List.mem_of_getElem? (i := 5) (by decide +kernel)))) rfl, by decide +kernel, by decide⟩
theorem IMO_platform : Cond.instanceMethod yMO_platform ∈ tc_T := tc_in (List.mem_append_right _ (List.mem_append_right _ (List.mem_append_left _ (List.mem_of_getElem? (i := 117) (by decide +kernel))))) rfl
theorem SMO_platform : Cond.selects yMO_platform.cls yMO_platform yMO_platform ∈ tc_T := tc_in (List.mem_append_right _ (List.mem_append_right _ (List.mem_append_left _ (List.mem_of_getElem? (i := 118) (by decide +kernel))))) rfl
theorem YMO_tool : tc_Y yMO_tool cMO_tool 5 (some .int) 4 := ⟨tc_in (List.mem_append_right _ (List.mem_append_right _ (List.mem_append_left _ (List.mem_of_getElem? (i := 123) rfl)))) rfl, tc_in (List.mem_append_right _ (List.mem_append_left _ (List.mem_of_getElem? (i := 5) (by decide +kernel)))) rfl, by decide +kernel, by decide⟩
theorem IMO_tool : Cond.instanceMethod yMO_tool ∈ tc_T := tc_in (List.mem_append_right _ (List.mem_append_right _ (List.mem_append_left _ (List.mem_of_getElem? (i := 121) (by decide +kernel))))) rfl
theorem SMO_tool : Cond.selects yMO_tool.cls yMO_tool yMO_tool ∈ tc_T := tc_in (List.mem_append_right _ (List.mem_append_right _ (List.mem_append_left _ (List.mem_of_getElem? (i := 122) (by decide +kernel))))) rfl
theorem YMO_isKind : tc_Y yMO_isKind cMO_isKind 1 (some .boolean) 1 := ⟨tc_in (List.mem_append_right _ (List.mem_append_right _ (List.mem_append_left _ (List.mem_of_getElem? (i := 126) rfl)))) rfl, tc_in (List.mem_append_right _ (List.mem_append_left _ (List.mem_of_getElem? (i := 5) (by decide +kernel)))) rfl, by decide +kernel, by decide⟩
theorem YMO_order : tc_Y yMO_order cMO_order 5 (some .boolean) 2 := ⟨tc_in (List.mem_append_right _ (List.mem_append_right _ (List.mem_append_left _ (List.mem_of_getElem? (i := 130) rfl)))) rfl, tc_in (List.mem_append_right _ (List.mem_append_left _ (List.mem_of_getElem? (i := 5) (by decide +kernel)))) rfl, by decide +kernel, by decide⟩
theorem IMO_order : Cond.instanceMethod yMO_order ∈ tc_T := tc_in (List.mem_append_right _ (List.mem_append_right _ (List.mem_append_left _ (List.mem_of_getElem? (i := 128) (by decide +kernel))))) rfl
theorem SMO_order : Cond.selects yMO_order.cls yMO_order yMO_order ∈ tc_T := tc_in (List.mem_append_right _ (List.mem_append_right _ (List.mem_append_left _ (List.mem_of_getElem? (i := 129) (by decide +kernel))))) rfl
theorem YMO_isTool : tc_Y yMO_isTool cMO_isTool 2 (some .boolean) 1 := ⟨tc_in (List.mem_append_right _ (List.mem_append_right _ (List.mem_append_left _ (List.mem_of_getElem? (i := 134) rfl)))) rfl, tc_in (List.mem_append_right _ (List.mem_append_left _ (List.mem_of_getElem? (i := 5) (by decide +kernel)))) rfl, by decide +kernel, by decide⟩
theorem IMO_isTool : Cond.instanceMethod yMO_isTool ∈ tc_T := tc_in (List.mem_append_right _ (List.mem_append_right _ (List.mem_append_left _ (List.mem_of_getElem? (i := 133) (by decide +kernel))))) rfl
theorem SMO_isTool : Cond.selects yMO_isTool.cls yMO_isTool yMO_isTool ∈ tc_T := tc_in (List.mem_append_left _ (List.mem_of_getElem? (i := 26) (by decide +kernel))) rfl
theorem YMO_needs : tc_Y yMO_needs cMO_needs 3 (some .boolean) 2 := ⟨tc_in (List.mem_append_right _ (List.mem_append_right _ (List.mem_append_left _ (List.mem_of_getElem? (i := 138) rfl)))) rfl, tc_in (List.mem_append_right _ (List.mem_append_left _ (List.mem_of_getElem? (i := 5) (by decide +kernel)))) rfl, by decide +kernel, by decide⟩
theorem IMO_needs : Cond.instanceMethod yMO_needs ∈ tc_T := tc_in (List.mem_append_right _ (List.mem_append_right _ (List.mem_append_left _ (List.mem_of_getElem? (i := 136) (by decide +kernel))))) rfl
theorem SMO_needs : Cond.selects yMO_needs.cls yMO_needs yMO_needs ∈ tc_T := tc_in (List.mem_append_right _ (List.mem_append_right _ (List.mem_append_left _ (List.mem_of_getElem? (i := 137) (by decide +kernel))))) rfl
theorem YMO_wants : tc_Y yMO_wants cMO_wants 5 (some .boolean) 2 := ⟨tc_in (List.mem_append_right _ (List.mem_append_right _ (List.mem_append_left _ (List.mem_of_getElem? (i := 142) rfl)))) rfl, tc_in (List.mem_append_right _ (List.mem_append_left _ (List.mem_of_getElem? (i := 5) (by decide +kernel)))) rfl, by decide +kernel, by decide⟩
theorem IMO_wants : Cond.instanceMethod yMO_wants ∈ tc_T := tc_in (List.mem_append_right _ (List.mem_append_right _ (List.mem_append_left _ (List.mem_of_getElem? (i := 141) (by decide +kernel))))) rfl
theorem SMO_wants : Cond.selects yMO_wants.cls yMO_wants yMO_wants ∈ tc_T := tc_in (List.mem_append_left _ (List.mem_of_getElem? (i := 27) (by decide +kernel))) rfl
theorem YMO_ask : tc_Y yMO_ask cMO_ask 4 (some .boolean) 3 := ⟨tc_in (List.mem_append_right _ (List.mem_append_right _ (List.mem_append_left _ (List.mem_of_getElem? (i := 146) rfl)))) rfl, tc_in (List.mem_append_right _ (List.mem_append_left _ (List.mem_of_getElem? (i := 5) (by decide +kernel)))) rfl, by decide +kernel, by decide⟩
theorem IMO_ask : Cond.instanceMethod yMO_ask ∈ tc_T := tc_in (List.mem_append_right _ (List.mem_append_right _ (List.mem_append_left _ (List.mem_of_getElem? (i := 144) (by decide +kernel))))) rfl
theorem SMO_ask : Cond.selects yMO_ask.cls yMO_ask yMO_ask ∈ tc_T := tc_in (List.mem_append_right _ (List.mem_append_right _ (List.mem_append_left _ (List.mem_of_getElem? (i := 145) (by decide +kernel))))) rfl
theorem YMO_place : tc_Y yMO_place cMO_place 4 (some .int) 1 := ⟨tc_in (List.mem_append_right _ (List.mem_append_right _ (List.mem_append_left _ (List.mem_of_getElem? (i := 150) rfl)))) rfl, tc_in (List.mem_append_right _ (List.mem_append_left _ (List.mem_of_getElem? (i := 5) (by decide +kernel)))) rfl, by decide +kernel, by decide⟩
theorem IMO_place : Cond.instanceMethod yMO_place ∈ tc_T := tc_in (List.mem_append_right _ (List.mem_append_right _ (List.mem_append_left _ (List.mem_of_getElem? (i := 149) (by decide +kernel))))) rfl
theorem SMO_place : Cond.selects yMO_place.cls yMO_place yMO_place ∈ tc_T := tc_in (List.mem_append_left _ (List.mem_of_getElem? (i := 28) (by decide +kernel))) rfl
theorem YMO_drop : tc_Y yMO_drop cMO_drop 4 (some .boolean) 1 := ⟨tc_in (List.mem_append_right _ (List.mem_append_right _ (List.mem_append_left _ (List.mem_of_getElem? (i := 154) rfl)))) rfl, tc_in (List.mem_append_right _ (List.mem_append_left _ (List.mem_of_getElem? (i := 5) (by decide +kernel)))) rfl, by decide +kernel, by decide⟩
theorem IMO_drop : Cond.instanceMethod yMO_drop ∈ tc_T := tc_in (List.mem_append_right _ (List.mem_append_right _ (List.mem_append_left _ (List.mem_of_getElem? (i := 152) (by decide +kernel))))) rfl
theorem SMO_drop : Cond.selects yMO_drop.cls yMO_drop yMO_drop ∈ tc_T := tc_in (List.mem_append_right _ (List.mem_append_right _ (List.mem_append_left _ (List.mem_of_getElem? (i := 153) (by decide +kernel))))) rfl
theorem YMO_force : tc_Y yMO_force cMO_force 3 (some .boolean) 2 := ⟨tc_in (List.mem_append_right _ (List.mem_append_right _ (List.mem_append_left _ (List.mem_of_getElem? (i := 158) rfl)))) rfl, tc_in (List.mem_append_right _ (List.mem_append_left _ (List.mem_of_getElem? (i := 5) (by decide +kernel)))) rfl, by decide +kernel, by decide⟩
theorem IMO_force : Cond.instanceMethod yMO_force ∈ tc_T := tc_in (List.mem_append_right _ (List.mem_append_right _ (List.mem_append_left _ (List.mem_of_getElem? (i := 156) (by decide +kernel))))) rfl
theorem SMO_force : Cond.selects yMO_force.cls yMO_force yMO_force ∈ tc_T := tc_in (List.mem_append_right _ (List.mem_append_right _ (List.mem_append_left _ (List.mem_of_getElem? (i := 157) (by decide +kernel))))) rfl
theorem YMO_built : tc_Y yMO_built cMO_built 3 (some .boolean) 2 := ⟨tc_in (List.mem_append_right _ (List.mem_append_right _ (List.mem_append_left _ (List.mem_of_getElem? (i := 162) rfl)))) rfl, tc_in (List.mem_append_right _ (List.mem_append_left _ (List.mem_of_getElem? (i := 5) (by decide +kernel)))) rfl, by decide +kernel, by decide⟩
theorem IMO_built : Cond.instanceMethod yMO_built ∈ tc_T := tc_in (List.mem_append_right _ (List.mem_append_right _ (List.mem_append_left _ (List.mem_of_getElem? (i := 160) (by decide +kernel))))) rfl
theorem SMO_built : Cond.selects yMO_built.cls yMO_built yMO_built ∈ tc_T := tc_in (List.mem_append_right _ (List.mem_append_right _ (List.mem_append_left _ (List.mem_of_getElem? (i := 161) (by decide +kernel))))) rfl
theorem YMO_isPlatform : tc_Y yMO_isPlatform cMO_isPlatform 2 (some .boolean) 1 := ⟨tc_in (List.mem_append_right _ (List.mem_append_right _ (List.mem_append_left _ (List.mem_of_getElem? (i := 166) rfl)))) rfl, tc_in (List.mem_append_right _ (List.mem_append_left _ (List.mem_of_getElem? (i := 5) (by decide +kernel)))) rfl, by decide +kernel, by decide⟩
theorem IMO_isPlatform : Cond.instanceMethod yMO_isPlatform ∈ tc_T := tc_in (List.mem_append_right _ (List.mem_append_right _ (List.mem_append_left _ (List.mem_of_getElem? (i := 165) (by decide +kernel))))) rfl
theorem SMO_isPlatform : Cond.selects yMO_isPlatform.cls yMO_isPlatform yMO_isPlatform ∈ tc_T := tc_in (List.mem_append_left _ (List.mem_of_getElem? (i := 29) (by decide +kernel))) rfl
theorem YMO_build : tc_Y yMO_build cMO_build 4 (none) 0 := ⟨tc_in (List.mem_append_right _ (List.mem_append_right _ (List.mem_append_left _ (List.mem_of_getElem? (i := 170) rfl)))) rfl, tc_in (List.mem_append_right _ (List.mem_append_left _ (List.mem_of_getElem? (i := 5) (by decide +kernel)))) rfl, by decide +kernel, by decide⟩
theorem IMO_build : Cond.instanceMethod yMO_build ∈ tc_T := tc_in (List.mem_append_right _ (List.mem_append_right _ (List.mem_append_left _ (List.mem_of_getElem? (i := 169) (by decide +kernel))))) rfl
theorem SMO_build : Cond.selects yMO_build.cls yMO_build yMO_build ∈ tc_T := tc_in (List.mem_append_left _ (List.mem_of_getElem? (i := 30) (by decide +kernel))) rfl
theorem YMO_at : tc_Y yMO_at cMO_at 2 (some .int) 2 := ⟨tc_in (List.mem_append_right _ (List.mem_append_right _ (List.mem_append_left _ (List.mem_of_getElem? (i := 173) rfl)))) rfl, tc_in (List.mem_append_right _ (List.mem_append_left _ (List.mem_of_getElem? (i := 5) (by decide +kernel)))) rfl, by decide +kernel, by decide⟩
theorem YMO_runsOn : tc_Y yMO_runsOn cMO_runsOn 3 (some .boolean) 2 := ⟨tc_in (List.mem_append_right _ (List.mem_append_right _ (List.mem_append_left _ (List.mem_of_getElem? (i := 177) rfl)))) rfl, tc_in (List.mem_append_right _ (List.mem_append_left _ (List.mem_of_getElem? (i := 5) (by decide +kernel)))) rfl, by decide +kernel, by decide⟩
theorem IMO_runsOn : Cond.instanceMethod yMO_runsOn ∈ tc_T := tc_in (List.mem_append_right _ (List.mem_append_right _ (List.mem_append_left _ (List.mem_of_getElem? (i := 176) (by decide +kernel))))) rfl
theorem SMO_runsOn : Cond.selects yMO_runsOn.cls yMO_runsOn yMO_runsOn ∈ tc_T := tc_in (List.mem_append_left _ (List.mem_of_getElem? (i := 31) (by decide +kernel))) rfl
theorem YMO_lacking : tc_Y yMO_lacking cMO_lacking 4 (some .int) 2 := ⟨tc_in (List.mem_append_right _ (List.mem_append_right _ (List.mem_append_left _ (List.mem_of_getElem? (i := 181) rfl)))) rfl, tc_in (List.mem_append_right _ (List.mem_append_left _ (List.mem_of_getElem? (i := 5) (by decide +kernel)))) rfl, by decide +kernel, by decide⟩
theorem IMO_lacking : Cond.instanceMethod yMO_lacking ∈ tc_T := tc_in (List.mem_append_right _ (List.mem_append_right _ (List.mem_append_left _ (List.mem_of_getElem? (i := 180) (by decide +kernel))))) rfl
theorem SMO_lacking : Cond.selects yMO_lacking.cls yMO_lacking yMO_lacking ∈ tc_T := tc_in (List.mem_append_left _ (List.mem_of_getElem? (i := 32) (by decide +kernel))) rfl
theorem YMO_missing : tc_Y yMO_missing cMO_missing 4 (some .int) 2 := ⟨tc_in (List.mem_append_right _ (List.mem_append_right _ (List.mem_append_left _ (List.mem_of_getElem? (i := 185) rfl)))) rfl, tc_in (List.mem_append_right _ (List.mem_append_left _ (List.mem_of_getElem? (i := 5) (by decide +kernel)))) rfl, by decide +kernel, by decide⟩
theorem IMO_missing : Cond.instanceMethod yMO_missing ∈ tc_T := tc_in (List.mem_append_right _ (List.mem_append_right _ (List.mem_append_left _ (List.mem_of_getElem? (i := 184) (by decide +kernel))))) rfl
theorem SMO_missing : Cond.selects yMO_missing.cls yMO_missing yMO_missing ∈ tc_T := tc_in (List.mem_append_left _ (List.mem_of_getElem? (i := 33) (by decide +kernel))) rfl
theorem YMO_isThere : tc_Y yMO_isThere cMO_isThere 6 (some .boolean) 2 := ⟨tc_in (List.mem_append_right _ (List.mem_append_right _ (List.mem_append_left _ (List.mem_of_getElem? (i := 189) rfl)))) rfl, tc_in (List.mem_append_right _ (List.mem_append_left _ (List.mem_of_getElem? (i := 5) (by decide +kernel)))) rfl, by decide +kernel, by decide⟩
theorem IMO_isThere : Cond.instanceMethod yMO_isThere ∈ tc_T := tc_in (List.mem_append_right _ (List.mem_append_right _ (List.mem_append_left _ (List.mem_of_getElem? (i := 188) (by decide +kernel))))) rfl
theorem SMO_isThere : Cond.selects yMO_isThere.cls yMO_isThere yMO_isThere ∈ tc_T := tc_in (List.mem_append_left _ (List.mem_of_getElem? (i := 34) (by decide +kernel))) rfl
theorem YMO_makesFor : tc_Y yMO_makesFor cMO_makesFor 3 (some .boolean) 2 := ⟨tc_in (List.mem_append_right _ (List.mem_append_right _ (List.mem_append_left _ (List.mem_of_getElem? (i := 193) rfl)))) rfl, tc_in (List.mem_append_right _ (List.mem_append_left _ (List.mem_of_getElem? (i := 5) (by decide +kernel)))) rfl, by decide +kernel, by decide⟩
theorem IMO_makesFor : Cond.instanceMethod yMO_makesFor ∈ tc_T := tc_in (List.mem_append_right _ (List.mem_append_right _ (List.mem_append_left _ (List.mem_of_getElem? (i := 192) (by decide +kernel))))) rfl
theorem SMO_makesFor : Cond.selects yMO_makesFor.cls yMO_makesFor yMO_makesFor ∈ tc_T := tc_in (List.mem_append_left _ (List.mem_of_getElem? (i := 35) (by decide +kernel))) rfl
theorem YMO_choose : tc_Y yMO_choose cMO_choose 3 (some .int) 1 := ⟨tc_in (List.mem_append_right _ (List.mem_append_right _ (List.mem_append_left _ (List.mem_of_getElem? (i := 197) rfl)))) rfl, tc_in (List.mem_append_right _ (List.mem_append_left _ (List.mem_of_getElem? (i := 5) (by decide +kernel)))) rfl, by decide +kernel, by decide⟩
theorem IMO_choose : Cond.instanceMethod yMO_choose ∈ tc_T := tc_in (List.mem_append_right _ (List.mem_append_right _ (List.mem_append_left _ (List.mem_of_getElem? (i := 195) (by decide +kernel))))) rfl
theorem SMO_choose : Cond.selects yMO_choose.cls yMO_choose yMO_choose ∈ tc_T := tc_in (List.mem_append_right _ (List.mem_append_right _ (List.mem_append_left _ (List.mem_of_getElem? (i := 196) (by decide +kernel))))) rfl
theorem YMO_tryOn : tc_Y yMO_tryOn cMO_tryOn 5 (some .boolean) 2 := ⟨tc_in (List.mem_append_right _ (List.mem_append_right _ (List.mem_append_left _ (List.mem_of_getElem? (i := 201) rfl)))) rfl, tc_in (List.mem_append_right _ (List.mem_append_left _ (List.mem_of_getElem? (i := 5) (by decide +kernel)))) rfl, by decide +kernel, by decide⟩
theorem IMO_tryOn : Cond.instanceMethod yMO_tryOn ∈ tc_T := tc_in (List.mem_append_right _ (List.mem_append_right _ (List.mem_append_left _ (List.mem_of_getElem? (i := 200) (by decide +kernel))))) rfl
theorem SMO_tryOn : Cond.selects yMO_tryOn.cls yMO_tryOn yMO_tryOn ∈ tc_T := tc_in (List.mem_append_left _ (List.mem_of_getElem? (i := 36) (by decide +kernel))) rfl
theorem YMO_look : tc_Y yMO_look cMO_look 7 (some .int) 3 := ⟨tc_in (List.mem_append_right _ (List.mem_append_right _ (List.mem_append_left _ (List.mem_of_getElem? (i := 205) rfl)))) rfl, tc_in (List.mem_append_right _ (List.mem_append_left _ (List.mem_of_getElem? (i := 5) (by decide +kernel)))) rfl, by decide +kernel, by decide⟩
theorem IMO_look : Cond.instanceMethod yMO_look ∈ tc_T := tc_in (List.mem_append_right _ (List.mem_append_right _ (List.mem_append_left _ (List.mem_of_getElem? (i := 204) (by decide +kernel))))) rfl
theorem SMO_look : Cond.selects yMO_look.cls yMO_look yMO_look ∈ tc_T := tc_in (List.mem_append_left _ (List.mem_of_getElem? (i := 37) (by decide +kernel))) rfl
theorem YMO_why : tc_Y yMO_why cMO_why 4 (some .int) 3 := ⟨tc_in (List.mem_append_right _ (List.mem_append_right _ (List.mem_append_left _ (List.mem_of_getElem? (i := 209) rfl)))) rfl, tc_in (List.mem_append_right _ (List.mem_append_left _ (List.mem_of_getElem? (i := 5) (by decide +kernel)))) rfl, by decide +kernel, by decide⟩
theorem IMO_why : Cond.instanceMethod yMO_why ∈ tc_T := tc_in (List.mem_append_right _ (List.mem_append_right _ (List.mem_append_left _ (List.mem_of_getElem? (i := 208) (by decide +kernel))))) rfl
theorem SMO_why : Cond.selects yMO_why.cls yMO_why yMO_why ∈ tc_T := tc_in (List.mem_append_left _ (List.mem_of_getElem? (i := 38) (by decide +kernel))) rfl
theorem YMO_tell : tc_Y yMO_tell cMO_tell 5 (none) 4 := ⟨tc_in (List.mem_append_right _ (List.mem_append_right _ (List.mem_append_left _ (List.mem_of_getElem? (i := 213) rfl)))) rfl, tc_in (List.mem_append_right _ (List.mem_append_left _ (List.mem_of_getElem? (i := 5) (by decide +kernel)))) rfl, by decide +kernel, by decide⟩
theorem IMO_tell : Cond.instanceMethod yMO_tell ∈ tc_T := tc_in (List.mem_append_right _ (List.mem_append_right _ (List.mem_append_left _ (List.mem_of_getElem? (i := 212) (by decide +kernel))))) rfl
theorem SMO_tell : Cond.selects yMO_tell.cls yMO_tell yMO_tell ∈ tc_T := tc_in (List.mem_append_left _ (List.mem_of_getElem? (i := 39) (by decide +kernel))) rfl
theorem YMO_chosen : tc_Y yMO_chosen cMO_chosen 2 (some .int) 1 := ⟨tc_in (List.mem_append_right _ (List.mem_append_right _ (List.mem_append_left _ (List.mem_of_getElem? (i := 217) rfl)))) rfl, tc_in (List.mem_append_right _ (List.mem_append_left _ (List.mem_of_getElem? (i := 5) (by decide +kernel)))) rfl, by decide +kernel, by decide⟩
theorem IMO_chosen : Cond.instanceMethod yMO_chosen ∈ tc_T := tc_in (List.mem_append_right _ (List.mem_append_right _ (List.mem_append_left _ (List.mem_of_getElem? (i := 215) (by decide +kernel))))) rfl
theorem SMO_chosen : Cond.selects yMO_chosen.cls yMO_chosen yMO_chosen ∈ tc_T := tc_in (List.mem_append_right _ (List.mem_append_right _ (List.mem_append_left _ (List.mem_of_getElem? (i := 216) (by decide +kernel))))) rfl
theorem YMO_rows : tc_Y yMO_rows cMO_rows 1 (some .int) 0 := ⟨tc_in (List.mem_append_right _ (List.mem_append_right _ (List.mem_append_left _ (List.mem_of_getElem? (i := 221) rfl)))) rfl, tc_in (List.mem_append_right _ (List.mem_append_left _ (List.mem_of_getElem? (i := 5) (by decide +kernel)))) rfl, by decide +kernel, by decide⟩
theorem IMO_rows : Cond.instanceMethod yMO_rows ∈ tc_T := tc_in (List.mem_append_right _ (List.mem_append_right _ (List.mem_append_left _ (List.mem_of_getElem? (i := 219) (by decide +kernel))))) rfl
theorem SMO_rows : Cond.selects yMO_rows.cls yMO_rows yMO_rows ∈ tc_T := tc_in (List.mem_append_right _ (List.mem_append_right _ (List.mem_append_left _ (List.mem_of_getElem? (i := 220) (by decide +kernel))))) rfl
theorem YMO_row : tc_Y yMO_row cMO_row 3 (some .int) 2 := ⟨tc_in (List.mem_append_right _ (List.mem_append_right _ (List.mem_append_left _ (List.mem_of_getElem? (i := 225) rfl)))) rfl, tc_in (List.mem_append_right _ (List.mem_append_left _ (List.mem_of_getElem? (i := 5) (by decide +kernel)))) rfl, by decide +kernel, by decide⟩
theorem IMO_row : Cond.instanceMethod yMO_row ∈ tc_T := tc_in (List.mem_append_right _ (List.mem_append_right _ (List.mem_append_left _ (List.mem_of_getElem? (i := 223) (by decide +kernel))))) rfl
theorem SMO_row : Cond.selects yMO_row.cls yMO_row yMO_row ∈ tc_T := tc_in (List.mem_append_right _ (List.mem_append_right _ (List.mem_append_left _ (List.mem_of_getElem? (i := 224) (by decide +kernel))))) rfl
theorem YMO_ring : tc_Y yMO_ring cMO_ring 4 (some .int) 1 := ⟨tc_in (List.mem_append_right _ (List.mem_append_right _ (List.mem_append_left _ (List.mem_of_getElem? (i := 229) rfl)))) rfl, tc_in (List.mem_append_right _ (List.mem_append_left _ (List.mem_of_getElem? (i := 5) (by decide +kernel)))) rfl, by decide +kernel, by decide⟩
theorem IMO_ring : Cond.instanceMethod yMO_ring ∈ tc_T := tc_in (List.mem_append_right _ (List.mem_append_right _ (List.mem_append_left _ (List.mem_of_getElem? (i := 227) (by decide +kernel))))) rfl
theorem SMO_ring : Cond.selects yMO_ring.cls yMO_ring yMO_ring ∈ tc_T := tc_in (List.mem_append_right _ (List.mem_append_right _ (List.mem_append_left _ (List.mem_of_getElem? (i := 228) (by decide +kernel))))) rfl
theorem YMO_isRing : tc_Y yMO_isRing cMO_isRing 4 (some .boolean) 1 := ⟨tc_in (List.mem_append_right _ (List.mem_append_right _ (List.mem_append_left _ (List.mem_of_getElem? (i := 233) rfl)))) rfl, tc_in (List.mem_append_right _ (List.mem_append_left _ (List.mem_of_getElem? (i := 5) (by decide +kernel)))) rfl, by decide +kernel, by decide⟩
theorem IMO_isRing : Cond.instanceMethod yMO_isRing ∈ tc_T := tc_in (List.mem_append_right _ (List.mem_append_right _ (List.mem_append_left _ (List.mem_of_getElem? (i := 232) (by decide +kernel))))) rfl
theorem SMO_isRing : Cond.selects yMO_isRing.cls yMO_isRing yMO_isRing ∈ tc_T := tc_in (List.mem_append_left _ (List.mem_of_getElem? (i := 40) (by decide +kernel))) rfl
theorem YMO_comesBack : tc_Y yMO_comesBack cMO_comesBack 5 (some .boolean) 1 := ⟨tc_in (List.mem_append_right _ (List.mem_append_right _ (List.mem_append_left _ (List.mem_of_getElem? (i := 237) rfl)))) rfl, tc_in (List.mem_append_right _ (List.mem_append_left _ (List.mem_of_getElem? (i := 5) (by decide +kernel)))) rfl, by decide +kernel, by decide⟩
theorem IMO_comesBack : Cond.instanceMethod yMO_comesBack ∈ tc_T := tc_in (List.mem_append_right _ (List.mem_append_right _ (List.mem_append_left _ (List.mem_of_getElem? (i := 236) (by decide +kernel))))) rfl
theorem SMO_comesBack : Cond.selects yMO_comesBack.cls yMO_comesBack yMO_comesBack ∈ tc_T := tc_in (List.mem_append_left _ (List.mem_of_getElem? (i := 41) (by decide +kernel))) rfl
theorem YMO_isPlace : tc_Y yMO_isPlace cMO_isPlace 2 (some .boolean) 1 := ⟨tc_in (List.mem_append_right _ (List.mem_append_right _ (List.mem_append_right _ (List.mem_of_getElem? (i := 1) rfl)))) rfl, tc_in (List.mem_append_right _ (List.mem_append_left _ (List.mem_of_getElem? (i := 5) (by decide +kernel)))) rfl, by decide +kernel, by decide⟩
theorem IMO_isPlace : Cond.instanceMethod yMO_isPlace ∈ tc_T := tc_in (List.mem_append_right _ (List.mem_append_right _ (List.mem_append_right _ (List.mem_of_getElem? (i := 0) (by decide +kernel))))) rfl
theorem SMO_isPlace : Cond.selects yMO_isPlace.cls yMO_isPlace yMO_isPlace ∈ tc_T := tc_in (List.mem_append_left _ (List.mem_of_getElem? (i := 42) (by decide +kernel))) rfl
theorem YMO_leads : tc_Y yMO_leads cMO_leads 5 (some .boolean) 2 := ⟨tc_in (List.mem_append_right _ (List.mem_append_right _ (List.mem_append_right _ (List.mem_of_getElem? (i := 5) rfl)))) rfl, tc_in (List.mem_append_right _ (List.mem_append_left _ (List.mem_of_getElem? (i := 5) (by decide +kernel)))) rfl, by decide +kernel, by decide⟩
theorem IMO_leads : Cond.instanceMethod yMO_leads ∈ tc_T := tc_in (List.mem_append_right _ (List.mem_append_right _ (List.mem_append_right _ (List.mem_of_getElem? (i := 4) (by decide +kernel))))) rfl
theorem SMO_leads : Cond.selects yMO_leads.cls yMO_leads yMO_leads ∈ tc_T := tc_in (List.mem_append_left _ (List.mem_of_getElem? (i := 43) (by decide +kernel))) rfl
theorem lLW_9 : Cond.methodLink RLW 9 yTC_init ∈ tc_T := tc_in (List.mem_append_right _ (List.mem_append_left _ (List.mem_of_getElem? (i := 8) (by decide +kernel)))) rfl
theorem oTC_3 : Cond.methodLink RTC 3 objectInit ∈ tc_T := tc_in (List.mem_append_right _ (List.mem_append_left _ (List.mem_of_getElem? (i := 11) (by decide +kernel)))) rfl
theorem oAK_3 : Cond.methodLink RAK 3 objectInit ∈ tc_T := tc_in (List.mem_append_right _ (List.mem_append_left _ (List.mem_of_getElem? (i := 19) (by decide +kernel)))) rfl
theorem oRO_3 : Cond.methodLink RRO 3 objectInit ∈ tc_T := tc_in (List.mem_append_right _ (List.mem_append_left _ (List.mem_of_getElem? (i := 40) (by decide +kernel)))) rfl
theorem kTC_76 : tc_KS RTC 76 yAR_fill cAR_fill 4 (none) 2 := ⟨YAR_fill, tc_in (List.mem_append_right _ (List.mem_append_left _ (List.mem_of_getElem? (i := 48) (by decide +kernel)))) rfl, tc_in (List.mem_append_right _ (List.mem_append_left _ (List.mem_of_getElem? (i := 49) (by decide +kernel)))) rfl⟩
theorem kLW_13 : tc_KV RLW 13 yTC_platform cTC_platform 2 (some .int) 1 2 TTC 19 := ⟨YTC_platform, tc_in (List.mem_append_right _ (List.mem_append_left _ (List.mem_of_getElem? (i := 109) (by decide +kernel)))) rfl, ITC_platform, STC_platform, rfl⟩
theorem kLW_18 : tc_KV RLW 18 yTC_tool cTC_tool 6 (some .int) 4 2 TTC 19 := ⟨YTC_tool, tc_in (List.mem_append_right _ (List.mem_append_left _ (List.mem_of_getElem? (i := 113) (by decide +kernel)))) rfl, ITC_tool, STC_tool, rfl⟩
theorem kTC_82 : tc_KS RTC 82 yTC_isKind cTC_isKind 1 (some .boolean) 1 := ⟨YTC_isKind, tc_in (List.mem_append_right _ (List.mem_append_left _ (List.mem_of_getElem? (i := 117) (by decide +kernel)))) rfl, tc_in (List.mem_append_right _ (List.mem_append_left _ (List.mem_of_getElem? (i := 118) (by decide +kernel)))) rfl⟩
theorem kLW_23 : tc_KV RLW 23 yTC_order cTC_order 5 (some .boolean) 2 2 TTC 19 := ⟨YTC_order, tc_in (List.mem_append_right _ (List.mem_append_left _ (List.mem_of_getElem? (i := 120) (by decide +kernel)))) rfl, ITC_order, STC_order, rfl⟩
theorem kTC_86 : tc_KV RTC 86 yTC_isTool cTC_isTool 2 (some .boolean) 1 2 TTC 19 := ⟨YTC_isTool, tc_in (List.mem_append_right _ (List.mem_append_left _ (List.mem_of_getElem? (i := 124) (by decide +kernel)))) rfl, ITC_isTool, STC_isTool, rfl⟩
theorem kTC_89 : tc_KV RTC 89 yTC_placeOf cTC_placeOf 3 (some .int) 1 2 TTC 19 := ⟨YTC_placeOf, tc_in (List.mem_append_right _ (List.mem_append_left _ (List.mem_of_getElem? (i := 128) (by decide +kernel)))) rfl, ITC_placeOf, STC_placeOf, rfl⟩
theorem kLW_28 : tc_KV RLW 28 yTC_needs cTC_needs 3 (some .boolean) 2 2 TTC 19 := ⟨YTC_needs, tc_in (List.mem_append_right _ (List.mem_append_left _ (List.mem_of_getElem? (i := 132) (by decide +kernel)))) rfl, ITC_needs, STC_needs, rfl⟩
theorem kTC_93 : tc_KS RTC 93 yTC_hasBit cTC_hasBit 2 (some .boolean) 2 := ⟨YTC_hasBit, tc_in (List.mem_append_right _ (List.mem_append_left _ (List.mem_of_getElem? (i := 136) (by decide +kernel)))) rfl, tc_in (List.mem_append_right _ (List.mem_append_left _ (List.mem_of_getElem? (i := 137) (by decide +kernel)))) rfl⟩
theorem kLW_32 : tc_KV RLW 32 yTC_ask cTC_ask 4 (some .boolean) 3 2 TTC 19 := ⟨YTC_ask, tc_in (List.mem_append_right _ (List.mem_append_left _ (List.mem_of_getElem? (i := 139) (by decide +kernel)))) rfl, ITC_ask, STC_ask, rfl⟩
theorem kAK_26 : tc_KV RAK 26 yAK_find cAK_find 3 (some .int) 1 0 TAK 4 := ⟨YAK_find, tc_in (List.mem_append_right _ (List.mem_append_left _ (List.mem_of_getElem? (i := 147) (by decide +kernel)))) rfl, IAK_find, SAK_find, rfl⟩
theorem kLW_37 : tc_KV RLW 37 yTC_drop cTC_drop 2 (some .boolean) 1 2 TTC 19 := ⟨YTC_drop, tc_in (List.mem_append_right _ (List.mem_append_left _ (List.mem_of_getElem? (i := 151) (by decide +kernel)))) rfl, ITC_drop, STC_drop, rfl⟩
theorem kLW_42 : tc_KV RLW 42 yTC_force cTC_force 3 (some .boolean) 2 2 TTC 19 := ⟨YTC_force, tc_in (List.mem_append_right _ (List.mem_append_left _ (List.mem_of_getElem? (i := 159) (by decide +kernel)))) rfl, ITC_force, STC_force, rfl⟩
theorem kLW_46 : tc_KV RLW 46 yTC_choose cTC_choose 3 (some .int) 1 2 TTC 19 := ⟨YTC_choose, tc_in (List.mem_append_right _ (List.mem_append_left _ (List.mem_of_getElem? (i := 163) (by decide +kernel)))) rfl, ITC_choose, STC_choose, rfl⟩
theorem kTC_104 : tc_KV RTC 104 yTC_isPlatform cTC_isPlatform 2 (some .boolean) 1 2 TTC 19 := ⟨YTC_isPlatform, tc_in (List.mem_append_right _ (List.mem_append_left _ (List.mem_of_getElem? (i := 167) (by decide +kernel)))) rfl, ITC_isPlatform, STC_isPlatform, rfl⟩
theorem kTC_107 : tc_KV RTC 107 yTC_settleBuilt cTC_settleBuilt 3 (none) 0 2 TTC 19 := ⟨YTC_settleBuilt, tc_in (List.mem_append_right _ (List.mem_append_left _ (List.mem_of_getElem? (i := 171) (by decide +kernel)))) rfl, ITC_settleBuilt, STC_settleBuilt, rfl⟩
theorem kTC_158 : tc_KV RTC 158 yTC_platformsHaving cTC_platformsHaving 4 (some .int) 1 2 TTC 19 := ⟨YTC_platformsHaving, tc_in (List.mem_append_right _ (List.mem_append_left _ (List.mem_of_getElem? (i := 175) (by decide +kernel)))) rfl, ITC_platformsHaving, STC_platformsHaving, rfl⟩
theorem kTC_161 : tc_KV RTC 161 yTC_growBuilt cTC_growBuilt 4 (some .boolean) 0 2 TTC 19 := ⟨YTC_growBuilt, tc_in (List.mem_append_right _ (List.mem_append_left _ (List.mem_of_getElem? (i := 179) (by decide +kernel)))) rfl, ITC_growBuilt, STC_growBuilt, rfl⟩
theorem kTC_165 : tc_KV RTC 165 yTC_platformsWithSupplies cTC_platformsWithSupplies 4 (some .int) 1 2 TTC 19 := ⟨YTC_platformsWithSupplies, tc_in (List.mem_append_right _ (List.mem_append_left _ (List.mem_of_getElem? (i := 183) (by decide +kernel)))) rfl, ITC_platformsWithSupplies, STC_platformsWithSupplies, rfl⟩
theorem kTC_113 : tc_KV RTC 113 yTC_takeTools cTC_takeTools 5 (some .boolean) 2 2 TTC 19 := ⟨YTC_takeTools, tc_in (List.mem_append_right _ (List.mem_append_left _ (List.mem_of_getElem? (i := 191) (by decide +kernel)))) rfl, ITC_takeTools, STC_takeTools, rfl⟩
theorem kTC_131 : tc_KV RTC 131 yTC_firstGood cTC_firstGood 7 (some .int) 3 2 TTC 19 := ⟨YTC_firstGood, tc_in (List.mem_append_right _ (List.mem_append_left _ (List.mem_of_getElem? (i := 203) (by decide +kernel)))) rfl, ITC_firstGood, STC_firstGood, rfl⟩
theorem kTC_138 : tc_KV RTC 138 yTC_whyNot cTC_whyNot 5 (some .int) 3 2 TTC 19 := ⟨YTC_whyNot, tc_in (List.mem_append_right _ (List.mem_append_left _ (List.mem_of_getElem? (i := 207) (by decide +kernel)))) rfl, ITC_whyNot, STC_whyNot, rfl⟩
theorem kTC_141 : tc_KV RTC 141 yTC_lackOf cTC_lackOf 5 (some .int) 4 2 TTC 19 := ⟨YTC_lackOf, tc_in (List.mem_append_right _ (List.mem_append_left _ (List.mem_of_getElem? (i := 215) (by decide +kernel)))) rfl, ITC_lackOf, STC_lackOf, rfl⟩
theorem kTC_152 : tc_KS RTC 152 yTC_lowestBit cTC_lowestBit 2 (some .int) 1 := ⟨YTC_lowestBit, tc_in (List.mem_append_right _ (List.mem_append_left _ (List.mem_of_getElem? (i := 219) (by decide +kernel)))) rfl, tc_in (List.mem_append_right _ (List.mem_append_left _ (List.mem_of_getElem? (i := 220) (by decide +kernel)))) rfl⟩
theorem kTC_155 : tc_KV RTC 155 yTC_lowestUnsupplied cTC_lowestUnsupplied 4 (some .int) 2 2 TTC 19 := ⟨YTC_lowestUnsupplied, tc_in (List.mem_append_right _ (List.mem_append_left _ (List.mem_of_getElem? (i := 222) (by decide +kernel)))) rfl, ITC_lowestUnsupplied, STC_lowestUnsupplied, rfl⟩
theorem kLW_50 : tc_KV RLW 50 yTC_chosen cTC_chosen 2 (some .int) 1 2 TTC 19 := ⟨YTC_chosen, tc_in (List.mem_append_right _ (List.mem_append_left _ (List.mem_of_getElem? (i := 234) (by decide +kernel)))) rfl, ITC_chosen, STC_chosen, rfl⟩
theorem kLW_54 : tc_KV RLW 54 yTC_rows cTC_rows 1 (some .int) 0 2 TTC 19 := ⟨YTC_rows, tc_in (List.mem_append_right _ (List.mem_append_left _ (List.mem_of_getElem? (i := 238) (by decide +kernel)))) rfl, ITC_rows, STC_rows, rfl⟩
theorem kLW_59 : tc_KV RLW 59 yTC_row cTC_row 3 (some .int) 2 2 TTC 19 := ⟨YTC_row, tc_in (List.mem_append_right _ (List.mem_append_right _ (List.mem_append_left _ (List.mem_of_getElem? (i := 6) (by decide +kernel))))) rfl, ITC_row, STC_row, rfl⟩
theorem kLW_64 : tc_KV RLW 64 yTC_built cTC_built 3 (some .boolean) 2 2 TTC 19 := ⟨YTC_built, tc_in (List.mem_append_right _ (List.mem_append_right _ (List.mem_append_left _ (List.mem_of_getElem? (i := 14) (by decide +kernel))))) rfl, ITC_built, STC_built, rfl⟩
theorem kLW_68 : tc_KV RLW 68 yTC_ring cTC_ring 4 (some .int) 1 2 TTC 19 := ⟨YTC_ring, tc_in (List.mem_append_right _ (List.mem_append_right _ (List.mem_append_left _ (List.mem_of_getElem? (i := 18) (by decide +kernel))))) rfl, ITC_ring, STC_ring, rfl⟩
theorem kTC_124 : tc_KV RTC 124 yTC_settleLeads cTC_settleLeads 3 (none) 0 2 TTC 19 := ⟨YTC_settleLeads, tc_in (List.mem_append_right _ (List.mem_append_right _ (List.mem_append_left _ (List.mem_of_getElem? (i := 22) (by decide +kernel))))) rfl, ITC_settleLeads, STC_settleLeads, rfl⟩
theorem kTC_168 : tc_KV RTC 168 yTC_stepsFrom cTC_stepsFrom 6 (some .int) 1 2 TTC 19 := ⟨YTC_stepsFrom, tc_in (List.mem_append_right _ (List.mem_append_right _ (List.mem_append_left _ (List.mem_of_getElem? (i := 26) (by decide +kernel))))) rfl, ITC_stepsFrom, STC_stepsFrom, rfl⟩
theorem kTC_171 : tc_KV RTC 171 yTC_unbuiltOn cTC_unbuiltOn 2 (some .int) 1 2 TTC 19 := ⟨YTC_unbuiltOn, tc_in (List.mem_append_right _ (List.mem_append_right _ (List.mem_append_left _ (List.mem_of_getElem? (i := 30) (by decide +kernel))))) rfl, ITC_unbuiltOn, STC_unbuiltOn, rfl⟩
theorem lLW_12 : Cond.methodLink RLW 12 yMO_init ∈ tc_T := tc_in (List.mem_append_right _ (List.mem_append_right _ (List.mem_append_left _ (List.mem_of_getElem? (i := 36) (by decide +kernel))))) rfl
theorem oMO_1 : Cond.methodLink RMO 1 objectInit ∈ tc_T := tc_in (List.mem_append_right _ (List.mem_append_right _ (List.mem_append_left _ (List.mem_of_getElem? (i := 39) (by decide +kernel))))) rfl
theorem kLW_17 : tc_KV RLW 17 yMO_platform cMO_platform 2 (some .int) 1 3 TMO 25 := ⟨YMO_platform, tc_in (List.mem_append_right _ (List.mem_append_right _ (List.mem_append_left _ (List.mem_of_getElem? (i := 116) (by decide +kernel))))) rfl, IMO_platform, SMO_platform, rfl⟩
theorem kLW_22 : tc_KV RLW 22 yMO_tool cMO_tool 5 (some .int) 4 3 TMO 25 := ⟨YMO_tool, tc_in (List.mem_append_right _ (List.mem_append_right _ (List.mem_append_left _ (List.mem_of_getElem? (i := 120) (by decide +kernel))))) rfl, IMO_tool, SMO_tool, rfl⟩
theorem kMO_78 : tc_KS RMO 78 yMO_isKind cMO_isKind 1 (some .boolean) 1 := ⟨YMO_isKind, tc_in (List.mem_append_right _ (List.mem_append_right _ (List.mem_append_left _ (List.mem_of_getElem? (i := 124) (by decide +kernel))))) rfl, tc_in (List.mem_append_right _ (List.mem_append_right _ (List.mem_append_left _ (List.mem_of_getElem? (i := 125) (by decide +kernel))))) rfl⟩
theorem kLW_27 : tc_KV RLW 27 yMO_order cMO_order 5 (some .boolean) 2 3 TMO 25 := ⟨YMO_order, tc_in (List.mem_append_right _ (List.mem_append_right _ (List.mem_append_left _ (List.mem_of_getElem? (i := 127) (by decide +kernel))))) rfl, IMO_order, SMO_order, rfl⟩
theorem kMO_82 : tc_KV RMO 82 yMO_isTool cMO_isTool 2 (some .boolean) 1 3 TMO 25 := ⟨YMO_isTool, tc_in (List.mem_append_right _ (List.mem_append_right _ (List.mem_append_left _ (List.mem_of_getElem? (i := 131) (by decide +kernel))))) rfl, IMO_isTool, SMO_isTool, rfl⟩
theorem kLW_31 : tc_KV RLW 31 yMO_needs cMO_needs 3 (some .boolean) 2 3 TMO 25 := ⟨YMO_needs, tc_in (List.mem_append_right _ (List.mem_append_right _ (List.mem_append_left _ (List.mem_of_getElem? (i := 135) (by decide +kernel))))) rfl, IMO_needs, SMO_needs, rfl⟩
theorem kMO_88 : tc_KV RMO 88 yMO_wants cMO_wants 5 (some .boolean) 2 3 TMO 25 := ⟨YMO_wants, tc_in (List.mem_append_right _ (List.mem_append_right _ (List.mem_append_left _ (List.mem_of_getElem? (i := 139) (by decide +kernel))))) rfl, IMO_wants, SMO_wants, rfl⟩
theorem kLW_36 : tc_KV RLW 36 yMO_ask cMO_ask 4 (some .boolean) 3 3 TMO 25 := ⟨YMO_ask, tc_in (List.mem_append_right _ (List.mem_append_right _ (List.mem_append_left _ (List.mem_of_getElem? (i := 143) (by decide +kernel))))) rfl, IMO_ask, SMO_ask, rfl⟩
theorem kMO_95 : tc_KV RMO 95 yMO_place cMO_place 4 (some .int) 1 3 TMO 25 := ⟨YMO_place, tc_in (List.mem_append_right _ (List.mem_append_right _ (List.mem_append_left _ (List.mem_of_getElem? (i := 147) (by decide +kernel))))) rfl, IMO_place, SMO_place, rfl⟩
theorem kLW_41 : tc_KV RLW 41 yMO_drop cMO_drop 4 (some .boolean) 1 3 TMO 25 := ⟨YMO_drop, tc_in (List.mem_append_right _ (List.mem_append_right _ (List.mem_append_left _ (List.mem_of_getElem? (i := 151) (by decide +kernel))))) rfl, IMO_drop, SMO_drop, rfl⟩
theorem kLW_45 : tc_KV RLW 45 yMO_force cMO_force 3 (some .boolean) 2 3 TMO 25 := ⟨YMO_force, tc_in (List.mem_append_right _ (List.mem_append_right _ (List.mem_append_left _ (List.mem_of_getElem? (i := 155) (by decide +kernel))))) rfl, IMO_force, SMO_force, rfl⟩
theorem kLW_67 : tc_KV RLW 67 yMO_built cMO_built 3 (some .boolean) 2 3 TMO 25 := ⟨YMO_built, tc_in (List.mem_append_right _ (List.mem_append_right _ (List.mem_append_left _ (List.mem_of_getElem? (i := 159) (by decide +kernel))))) rfl, IMO_built, SMO_built, rfl⟩
theorem kMO_118 : tc_KV RMO 118 yMO_isPlatform cMO_isPlatform 2 (some .boolean) 1 3 TMO 25 := ⟨YMO_isPlatform, tc_in (List.mem_append_right _ (List.mem_append_right _ (List.mem_append_left _ (List.mem_of_getElem? (i := 163) (by decide +kernel))))) rfl, IMO_isPlatform, SMO_isPlatform, rfl⟩
theorem kMO_121 : tc_KV RMO 121 yMO_build cMO_build 4 (none) 0 3 TMO 25 := ⟨YMO_build, tc_in (List.mem_append_right _ (List.mem_append_right _ (List.mem_append_left _ (List.mem_of_getElem? (i := 167) (by decide +kernel))))) rfl, IMO_build, SMO_build, rfl⟩
theorem kMO_106 : tc_KS RMO 106 yMO_at cMO_at 2 (some .int) 2 := ⟨YMO_at, tc_in (List.mem_append_right _ (List.mem_append_right _ (List.mem_append_left _ (List.mem_of_getElem? (i := 171) (by decide +kernel))))) rfl, tc_in (List.mem_append_right _ (List.mem_append_right _ (List.mem_append_left _ (List.mem_of_getElem? (i := 172) (by decide +kernel))))) rfl⟩
theorem kMO_112 : tc_KV RMO 112 yMO_runsOn cMO_runsOn 3 (some .boolean) 2 3 TMO 25 := ⟨YMO_runsOn, tc_in (List.mem_append_right _ (List.mem_append_right _ (List.mem_append_left _ (List.mem_of_getElem? (i := 174) (by decide +kernel))))) rfl, IMO_runsOn, SMO_runsOn, rfl⟩
theorem kMO_99 : tc_KV RMO 99 yMO_lacking cMO_lacking 4 (some .int) 2 3 TMO 25 := ⟨YMO_lacking, tc_in (List.mem_append_right _ (List.mem_append_right _ (List.mem_append_left _ (List.mem_of_getElem? (i := 178) (by decide +kernel))))) rfl, IMO_lacking, SMO_lacking, rfl⟩
theorem kMO_115 : tc_KV RMO 115 yMO_missing cMO_missing 4 (some .int) 2 3 TMO 25 := ⟨YMO_missing, tc_in (List.mem_append_right _ (List.mem_append_right _ (List.mem_append_left _ (List.mem_of_getElem? (i := 182) (by decide +kernel))))) rfl, IMO_missing, SMO_missing, rfl⟩
theorem kMO_109 : tc_KV RMO 109 yMO_isThere cMO_isThere 6 (some .boolean) 2 3 TMO 25 := ⟨YMO_isThere, tc_in (List.mem_append_right _ (List.mem_append_right _ (List.mem_append_left _ (List.mem_of_getElem? (i := 186) (by decide +kernel))))) rfl, IMO_isThere, SMO_isThere, rfl⟩
theorem kMO_103 : tc_KV RMO 103 yMO_makesFor cMO_makesFor 3 (some .boolean) 2 3 TMO 25 := ⟨YMO_makesFor, tc_in (List.mem_append_right _ (List.mem_append_right _ (List.mem_append_left _ (List.mem_of_getElem? (i := 190) (by decide +kernel))))) rfl, IMO_makesFor, SMO_makesFor, rfl⟩
theorem kLW_49 : tc_KV RLW 49 yMO_choose cMO_choose 3 (some .int) 1 3 TMO 25 := ⟨YMO_choose, tc_in (List.mem_append_right _ (List.mem_append_right _ (List.mem_append_left _ (List.mem_of_getElem? (i := 194) (by decide +kernel))))) rfl, IMO_choose, SMO_choose, rfl⟩
theorem kMO_138 : tc_KV RMO 138 yMO_tryOn cMO_tryOn 5 (some .boolean) 2 3 TMO 25 := ⟨YMO_tryOn, tc_in (List.mem_append_right _ (List.mem_append_right _ (List.mem_append_left _ (List.mem_of_getElem? (i := 198) (by decide +kernel))))) rfl, IMO_tryOn, SMO_tryOn, rfl⟩
theorem kMO_135 : tc_KV RMO 135 yMO_look cMO_look 7 (some .int) 3 3 TMO 25 := ⟨YMO_look, tc_in (List.mem_append_right _ (List.mem_append_right _ (List.mem_append_left _ (List.mem_of_getElem? (i := 202) (by decide +kernel))))) rfl, IMO_look, SMO_look, rfl⟩
theorem kMO_127 : tc_KV RMO 127 yMO_why cMO_why 4 (some .int) 3 3 TMO 25 := ⟨YMO_why, tc_in (List.mem_append_right _ (List.mem_append_right _ (List.mem_append_left _ (List.mem_of_getElem? (i := 206) (by decide +kernel))))) rfl, IMO_why, SMO_why, rfl⟩
theorem kMO_131 : tc_KV RMO 131 yMO_tell cMO_tell 5 (none) 4 3 TMO 25 := ⟨YMO_tell, tc_in (List.mem_append_right _ (List.mem_append_right _ (List.mem_append_left _ (List.mem_of_getElem? (i := 210) (by decide +kernel))))) rfl, IMO_tell, SMO_tell, rfl⟩
theorem kLW_53 : tc_KV RLW 53 yMO_chosen cMO_chosen 2 (some .int) 1 3 TMO 25 := ⟨YMO_chosen, tc_in (List.mem_append_right _ (List.mem_append_right _ (List.mem_append_left _ (List.mem_of_getElem? (i := 214) (by decide +kernel))))) rfl, IMO_chosen, SMO_chosen, rfl⟩
theorem kLW_58 : tc_KV RLW 58 yMO_rows cMO_rows 1 (some .int) 0 3 TMO 25 := ⟨YMO_rows, tc_in (List.mem_append_right _ (List.mem_append_right _ (List.mem_append_left _ (List.mem_of_getElem? (i := 218) (by decide +kernel))))) rfl, IMO_rows, SMO_rows, rfl⟩
theorem kLW_63 : tc_KV RLW 63 yMO_row cMO_row 3 (some .int) 2 3 TMO 25 := ⟨YMO_row, tc_in (List.mem_append_right _ (List.mem_append_right _ (List.mem_append_left _ (List.mem_of_getElem? (i := 222) (by decide +kernel))))) rfl, IMO_row, SMO_row, rfl⟩
theorem kLW_71 : tc_KV RLW 71 yMO_ring cMO_ring 4 (some .int) 1 3 TMO 25 := ⟨YMO_ring, tc_in (List.mem_append_right _ (List.mem_append_right _ (List.mem_append_left _ (List.mem_of_getElem? (i := 226) (by decide +kernel))))) rfl, IMO_ring, SMO_ring, rfl⟩
theorem kMO_150 : tc_KV RMO 150 yMO_isRing cMO_isRing 4 (some .boolean) 1 3 TMO 25 := ⟨YMO_isRing, tc_in (List.mem_append_right _ (List.mem_append_right _ (List.mem_append_left _ (List.mem_of_getElem? (i := 230) (by decide +kernel))))) rfl, IMO_isRing, SMO_isRing, rfl⟩
theorem kMO_147 : tc_KV RMO 147 yMO_comesBack cMO_comesBack 5 (some .boolean) 1 3 TMO 25 := ⟨YMO_comesBack, tc_in (List.mem_append_right _ (List.mem_append_right _ (List.mem_append_left _ (List.mem_of_getElem? (i := 234) (by decide +kernel))))) rfl, IMO_comesBack, SMO_comesBack, rfl⟩
theorem kMO_141 : tc_KV RMO 141 yMO_isPlace cMO_isPlace 2 (some .boolean) 1 3 TMO 25 := ⟨YMO_isPlace, tc_in (List.mem_append_right _ (List.mem_append_right _ (List.mem_append_left _ (List.mem_of_getElem? (i := 238) (by decide +kernel))))) rfl, IMO_isPlace, SMO_isPlace, rfl⟩
theorem kMO_144 : tc_KV RMO 144 yMO_leads cMO_leads 5 (some .boolean) 2 3 TMO 25 := ⟨YMO_leads, tc_in (List.mem_append_right _ (List.mem_append_right _ (List.mem_append_right _ (List.mem_of_getElem? (i := 2) (by decide +kernel))))) rfl, IMO_leads, SMO_leads, rfl⟩
theorem nTC_43 : (RTC, 43, yAK_init, RTC) ∈ tc_nest := List.mem_of_getElem? (i := 0) rfl
theorem nTC_56 : (RTC, 56, yRO_init, RTC) ∈ tc_nest := List.mem_of_getElem? (i := 1) rfl
theorem nTC_97 : (RTC, 97, yAK_put, RTC) ∈ tc_nest := List.mem_of_getElem? (i := 2) rfl
theorem kTC_97 : tc_KN RTC 97 yAK_put cAK_put 4 (none) 3 0 TAK 4 RTC := ⟨YAK_put, nTC_97, IAK_put, SAK_put, rfl⟩
theorem nTC_101 : (RTC, 101, yAK_remove, RTC) ∈ tc_nest := List.mem_of_getElem? (i := 3) rfl
theorem kTC_101 : tc_KN RTC 101 yAK_remove cAK_remove 4 (some .boolean) 1 0 TAK 4 RTC := ⟨YAK_remove, nTC_101, IAK_remove, SAK_remove, rfl⟩
theorem nTC_110 : (RTC, 110, yRO_clear, RTC) ∈ tc_nest := List.mem_of_getElem? (i := 4) rfl
theorem kTC_110 : tc_KN RTC 110 yRO_clear cRO_clear 1 (none) 0 1 TRO 2 RTC := ⟨YRO_clear, nTC_110, IRO_clear, SRO_clear, rfl⟩
theorem nTC_127 : (RTC, 127, yAK_size, RTC) ∈ tc_nest := List.mem_of_getElem? (i := 5) rfl
theorem kTC_127 : tc_KN RTC 127 yAK_size cAK_size 1 (some .int) 0 0 TAK 4 RTC := ⟨YAK_size, nTC_127, IAK_size, SAK_size, rfl⟩
theorem nTC_128 : (RTC, 128, yAK_kindAt, RTC) ∈ tc_nest := List.mem_of_getElem? (i := 6) rfl
theorem kTC_128 : tc_KN RTC 128 yAK_kindAt cAK_kindAt 2 (some .int) 1 0 TAK 4 RTC := ⟨YAK_kindAt, nTC_128, IAK_kindAt, SAK_kindAt, rfl⟩
theorem nTC_149 : (RTC, 149, yAK_leastVersion, RTC) ∈ tc_nest := List.mem_of_getElem? (i := 7) rfl
theorem kTC_149 : tc_KN RTC 149 yAK_leastVersion cAK_leastVersion 2 (some .int) 1 0 TAK 4 RTC := ⟨YAK_leastVersion, nTC_149, IAK_leastVersion, SAK_leastVersion, rfl⟩
theorem nTC_145 : (RTC, 145, yRO_add, RTC) ∈ tc_nest := List.mem_of_getElem? (i := 8) rfl
theorem kTC_145 : tc_KN RTC 145 yRO_add cRO_add 6 (none) 4 1 TRO 2 RTC := ⟨YRO_add, nTC_145, IRO_add, SRO_add, rfl⟩
theorem nTC_135 : (RTC, 135, yAK_isNeeded, RTC) ∈ tc_nest := List.mem_of_getElem? (i := 9) rfl
theorem kTC_135 : tc_KN RTC 135 yAK_isNeeded cAK_isNeeded 2 (some .boolean) 1 0 TAK 4 RTC := ⟨YAK_isNeeded, nTC_135, IAK_isNeeded, SAK_isNeeded, rfl⟩
theorem nTC_116 : (RTC, 116, yRO_size, RTC) ∈ tc_nest := List.mem_of_getElem? (i := 10) rfl
theorem kTC_116 : tc_KN RTC 116 yRO_size cRO_size 1 (some .int) 0 1 TRO 2 RTC := ⟨YRO_size, nTC_116, IRO_size, SRO_size, rfl⟩
theorem nTC_120 : (RTC, 120, yRO_cell, RTC) ∈ tc_nest := List.mem_of_getElem? (i := 11) rfl
theorem kTC_120 : tc_KN RTC 120 yRO_cell cRO_cell 3 (some .int) 2 1 TRO 2 RTC := ⟨YRO_cell, nTC_120, IRO_cell, SRO_cell, rfl⟩
theorem clLW_7 : Cond.classLink RLW 7 RTC ∈ tc_T := tc_in (List.mem_append_right _ (List.mem_append_left _ (List.mem_of_getElem? (i := 6) (by decide +kernel)))) rfl
theorem inTC : Cond.instantiable RTC 19 ∈ tc_T := tc_in (List.mem_append_right _ (List.mem_append_left _ (List.mem_of_getElem? (i := 7) (by decide +kernel)))) rfl
theorem itTC : Cond.initialized RTC ∈ tc_T := tc_in (List.mem_append_right _ (List.mem_append_left _ (List.mem_of_getElem? (i := 1) (by decide +kernel)))) rfl
theorem oI_ : Cond.instanceMethod objectInit ∈ tc_T := tc_in (List.mem_append_right _ (List.mem_append_left _ (List.mem_of_getElem? (i := 12) (by decide +kernel)))) rfl
theorem oC_ : Cond.code objectInit ⟨#[0xb1]⟩ 1 none ∈ tc_T := tc_in (List.mem_append_right _ (List.mem_append_left _ (List.mem_of_getElem? (i := 13) rfl))) rfl
theorem clTC_41 : Cond.classLink RTC 41 RAK ∈ tc_T := tc_in (List.mem_append_right _ (List.mem_append_left _ (List.mem_of_getElem? (i := 14) (by decide +kernel)))) rfl
theorem inAK : Cond.instantiable RAK 4 ∈ tc_T := tc_in (List.mem_append_right _ (List.mem_append_left _ (List.mem_of_getElem? (i := 15) (by decide +kernel)))) rfl
theorem itAK : Cond.initialized RAK ∈ tc_T := tc_in (List.mem_append_right _ (List.mem_append_left _ (List.mem_of_getElem? (i := 2) (by decide +kernel)))) rfl
theorem ar_int : Cond.arrayClass .int ∈ tc_T := tc_in (List.mem_append_right _ (List.mem_append_left _ (List.mem_of_getElem? (i := 33) (by decide +kernel)))) rfl
theorem ar_boolean : Cond.arrayClass .boolean ∈ tc_T := tc_in (List.mem_append_right _ (List.mem_append_left _ (List.mem_of_getElem? (i := 34) (by decide +kernel)))) rfl
theorem clTC_54 : Cond.classLink RTC 54 RRO ∈ tc_T := tc_in (List.mem_append_right _ (List.mem_append_left _ (List.mem_of_getElem? (i := 35) (by decide +kernel)))) rfl
theorem inRO : Cond.instantiable RRO 2 ∈ tc_T := tc_in (List.mem_append_right _ (List.mem_append_left _ (List.mem_of_getElem? (i := 36) (by decide +kernel)))) rfl
theorem itRO : Cond.initialized RRO ∈ tc_T := tc_in (List.mem_append_right _ (List.mem_append_left _ (List.mem_of_getElem? (i := 3) (by decide +kernel)))) rfl
theorem clLW_10 : Cond.classLink RLW 10 RMO ∈ tc_T := tc_in (List.mem_append_right _ (List.mem_append_right _ (List.mem_append_left _ (List.mem_of_getElem? (i := 34) (by decide +kernel))))) rfl
theorem inMO : Cond.instantiable RMO 25 ∈ tc_T := tc_in (List.mem_append_right _ (List.mem_append_right _ (List.mem_append_left _ (List.mem_of_getElem? (i := 35) (by decide +kernel))))) rfl
theorem itMO : Cond.initialized RMO ∈ tc_T := tc_in (List.mem_append_right _ (List.mem_append_left _ (List.mem_of_getElem? (i := 5) (by decide +kernel)))) rfl
end
section
theorem dAK_init_0 : decode cAK_init 0 = .ok (.aload_n 0, 1) := by decide +kernel
theorem dAK_init_1 : decode cAK_init 1 = .ok (.invokespecial 3, 3) := by decide +kernel
theorem dAK_init_4 : decode cAK_init 4 = .ok (.aload_n 0, 1) := by decide +kernel
theorem dAK_init_5 : decode cAK_init 5 = .ok (.bipush 8, 2) := by decide +kernel
theorem dAK_init_7 : decode cAK_init 7 = .ok (.newarray .int, 2) := by decide +kernel
theorem dAK_init_9 : decode cAK_init 9 = .ok (.putfield 9, 3) := by decide +kernel
theorem dAK_init_12 : decode cAK_init 12 = .ok (.aload_n 0, 1) := by decide +kernel
theorem dAK_init_13 : decode cAK_init 13 = .ok (.bipush 8, 2) := by decide +kernel
theorem dAK_init_15 : decode cAK_init 15 = .ok (.newarray .int, 2) := by decide +kernel
theorem dAK_init_17 : decode cAK_init 17 = .ok (.putfield 15, 3) := by decide +kernel
theorem dAK_init_20 : decode cAK_init 20 = .ok (.aload_n 0, 1) := by decide +kernel
theorem dAK_init_21 : decode cAK_init 21 = .ok (.bipush 8, 2) := by decide +kernel
theorem dAK_init_23 : decode cAK_init 23 = .ok (.newarray .boolean, 2) := by decide +kernel
theorem dAK_init_25 : decode cAK_init 25 = .ok (.putfield 18, 3) := by decide +kernel
theorem dAK_init_28 : decode cAK_init 28 = .ok (.aload_n 0, 1) := by decide +kernel
theorem dAK_init_29 : decode cAK_init 29 = .ok (.iconst 0, 1) := by decide +kernel
theorem dAK_init_30 : decode cAK_init 30 = .ok (.putfield 22, 3) := by decide +kernel
theorem dAK_init_33 : decode cAK_init 33 = .ok (.return_, 1) := by decide +kernel
theorem dAK_size_0 : decode cAK_size 0 = .ok (.aload_n 0, 1) := by decide +kernel
theorem dAK_size_1 : decode cAK_size 1 = .ok (.getfield 22, 3) := by decide +kernel
theorem dAK_size_4 : decode cAK_size 4 = .ok (.ireturn, 1) := by decide +kernel
theorem dAK_kindAt_0 : decode cAK_kindAt 0 = .ok (.aload_n 0, 1) := by decide +kernel
theorem dAK_kindAt_1 : decode cAK_kindAt 1 = .ok (.getfield 9, 3) := by decide +kernel
theorem dAK_kindAt_4 : decode cAK_kindAt 4 = .ok (.iload_n 1, 1) := by decide +kernel
theorem dAK_kindAt_5 : decode cAK_kindAt 5 = .ok (.iaload, 1) := by decide +kernel
theorem dAK_kindAt_6 : decode cAK_kindAt 6 = .ok (.ireturn, 1) := by decide +kernel
theorem dAK_leastVersion_0 : decode cAK_leastVersion 0 = .ok (.aload_n 0, 1) := by decide +kernel
theorem dAK_leastVersion_1 : decode cAK_leastVersion 1 = .ok (.getfield 15, 3) := by decide +kernel
theorem dAK_leastVersion_4 : decode cAK_leastVersion 4 = .ok (.iload_n 1, 1) := by decide +kernel
theorem dAK_leastVersion_5 : decode cAK_leastVersion 5 = .ok (.iaload, 1) := by decide +kernel
theorem dAK_leastVersion_6 : decode cAK_leastVersion 6 = .ok (.ireturn, 1) := by decide +kernel
theorem dAK_isNeeded_0 : decode cAK_isNeeded 0 = .ok (.aload_n 0, 1) := by decide +kernel
theorem dAK_isNeeded_1 : decode cAK_isNeeded 1 = .ok (.getfield 18, 3) := by decide +kernel
theorem dAK_isNeeded_4 : decode cAK_isNeeded 4 = .ok (.iload_n 1, 1) := by decide +kernel
theorem dAK_isNeeded_5 : decode cAK_isNeeded 5 = .ok (.baload, 1) := by decide +kernel
theorem dAK_isNeeded_6 : decode cAK_isNeeded 6 = .ok (.ireturn, 1) := by decide +kernel
theorem dAK_find_0 : decode cAK_find 0 = .ok (.iconst 0, 1) := by decide +kernel
theorem dAK_find_1 : decode cAK_find 1 = .ok (.istore_n 2, 1) := by decide +kernel
theorem dAK_find_2 : decode cAK_find 2 = .ok (.iload_n 2, 1) := by decide +kernel
theorem dAK_find_3 : decode cAK_find 3 = .ok (.aload_n 0, 1) := by decide +kernel
theorem dAK_find_4 : decode cAK_find 4 = .ok (.getfield 22, 3) := by decide +kernel
theorem dAK_find_7 : decode cAK_find 7 = .ok (.if_icmp .ge 21, 3) := by decide +kernel
theorem dAK_find_10 : decode cAK_find 10 = .ok (.aload_n 0, 1) := by decide +kernel
theorem dAK_find_11 : decode cAK_find 11 = .ok (.getfield 9, 3) := by decide +kernel
theorem dAK_find_14 : decode cAK_find 14 = .ok (.iload_n 2, 1) := by decide +kernel
theorem dAK_find_15 : decode cAK_find 15 = .ok (.iaload, 1) := by decide +kernel
theorem dAK_find_16 : decode cAK_find 16 = .ok (.iload_n 1, 1) := by decide +kernel
theorem dAK_find_17 : decode cAK_find 17 = .ok (.if_icmp .ne 5, 3) := by decide +kernel
theorem dAK_find_20 : decode cAK_find 20 = .ok (.iload_n 2, 1) := by decide +kernel
theorem dAK_find_21 : decode cAK_find 21 = .ok (.ireturn, 1) := by decide +kernel
theorem dAK_find_22 : decode cAK_find 22 = .ok (.iinc 2 1, 3) := by decide +kernel
theorem dAK_find_25 : decode cAK_find 25 = .ok (.goto (-23), 3) := by decide +kernel
theorem dAK_find_28 : decode cAK_find 28 = .ok (.iconst (-1), 1) := by decide +kernel
theorem dAK_find_29 : decode cAK_find 29 = .ok (.ireturn, 1) := by decide +kernel
theorem dAK_put_0 : decode cAK_put 0 = .ok (.aload_n 0, 1) := by decide +kernel
theorem dAK_put_1 : decode cAK_put 1 = .ok (.iload_n 1, 1) := by decide +kernel
theorem dAK_put_2 : decode cAK_put 2 = .ok (.invokevirtual 26, 3) := by decide +kernel
theorem dAK_put_5 : decode cAK_put 5 = .ok (.iconst (-1), 1) := by decide +kernel
theorem dAK_put_6 : decode cAK_put 6 = .ok (.if_icmp .ne 32, 3) := by decide +kernel
theorem dAK_put_9 : decode cAK_put 9 = .ok (.aload_n 0, 1) := by decide +kernel
theorem dAK_put_10 : decode cAK_put 10 = .ok (.getfield 22, 3) := by decide +kernel
theorem dAK_put_13 : decode cAK_put 13 = .ok (.bipush 8, 2) := by decide +kernel
theorem dAK_put_15 : decode cAK_put 15 = .ok (.if_icmp .ge 23, 3) := by decide +kernel
theorem dAK_put_18 : decode cAK_put 18 = .ok (.aload_n 0, 1) := by decide +kernel
theorem dAK_put_19 : decode cAK_put 19 = .ok (.getfield 9, 3) := by decide +kernel
theorem dAK_put_22 : decode cAK_put 22 = .ok (.aload_n 0, 1) := by decide +kernel
theorem dAK_put_23 : decode cAK_put 23 = .ok (.getfield 22, 3) := by decide +kernel
theorem dAK_put_26 : decode cAK_put 26 = .ok (.iload_n 1, 1) := by decide +kernel
theorem dAK_put_27 : decode cAK_put 27 = .ok (.iastore, 1) := by decide +kernel
theorem dAK_put_28 : decode cAK_put 28 = .ok (.aload_n 0, 1) := by decide +kernel
theorem dAK_put_29 : decode cAK_put 29 = .ok (.dup, 1) := by decide +kernel
theorem dAK_put_30 : decode cAK_put 30 = .ok (.getfield 22, 3) := by decide +kernel
theorem dAK_put_33 : decode cAK_put 33 = .ok (.iconst 1, 1) := by decide +kernel
theorem dAK_put_34 : decode cAK_put 34 = .ok (.iadd, 1) := by decide +kernel
theorem dAK_put_35 : decode cAK_put 35 = .ok (.putfield 22, 3) := by decide +kernel
theorem dAK_put_38 : decode cAK_put 38 = .ok (.aload_n 0, 1) := by decide +kernel
theorem dAK_put_39 : decode cAK_put 39 = .ok (.getfield 15, 3) := by decide +kernel
theorem dAK_put_42 : decode cAK_put 42 = .ok (.iload_n 1, 1) := by decide +kernel
theorem dAK_put_43 : decode cAK_put 43 = .ok (.iload_n 2, 1) := by decide +kernel
theorem dAK_put_44 : decode cAK_put 44 = .ok (.iastore, 1) := by decide +kernel
theorem dAK_put_45 : decode cAK_put 45 = .ok (.aload_n 0, 1) := by decide +kernel
theorem dAK_put_46 : decode cAK_put 46 = .ok (.getfield 18, 3) := by decide +kernel
theorem dAK_put_49 : decode cAK_put 49 = .ok (.iload_n 1, 1) := by decide +kernel
theorem dAK_put_50 : decode cAK_put 50 = .ok (.iload_n 3, 1) := by decide +kernel
theorem dAK_put_51 : decode cAK_put 51 = .ok (.bastore, 1) := by decide +kernel
theorem dAK_put_52 : decode cAK_put 52 = .ok (.return_, 1) := by decide +kernel
theorem dAK_remove_0 : decode cAK_remove 0 = .ok (.aload_n 0, 1) := by decide +kernel
theorem dAK_remove_1 : decode cAK_remove 1 = .ok (.iload_n 1, 1) := by decide +kernel
theorem dAK_remove_2 : decode cAK_remove 2 = .ok (.invokevirtual 26, 3) := by decide +kernel
theorem dAK_remove_5 : decode cAK_remove 5 = .ok (.istore_n 2, 1) := by decide +kernel
theorem dAK_remove_6 : decode cAK_remove 6 = .ok (.iload_n 2, 1) := by decide +kernel
theorem dAK_remove_7 : decode cAK_remove 7 = .ok (.iconst (-1), 1) := by decide +kernel
theorem dAK_remove_8 : decode cAK_remove 8 = .ok (.if_icmp .ne 5, 3) := by decide +kernel
theorem dAK_remove_11 : decode cAK_remove 11 = .ok (.iconst 0, 1) := by decide +kernel
theorem dAK_remove_12 : decode cAK_remove 12 = .ok (.ireturn, 1) := by decide +kernel
theorem dAK_remove_13 : decode cAK_remove 13 = .ok (.aload_n 0, 1) := by decide +kernel
theorem dAK_remove_14 : decode cAK_remove 14 = .ok (.dup, 1) := by decide +kernel
theorem dAK_remove_15 : decode cAK_remove 15 = .ok (.getfield 22, 3) := by decide +kernel
theorem dAK_remove_18 : decode cAK_remove 18 = .ok (.iconst 1, 1) := by decide +kernel
theorem dAK_remove_19 : decode cAK_remove 19 = .ok (.isub, 1) := by decide +kernel
theorem dAK_remove_20 : decode cAK_remove 20 = .ok (.putfield 22, 3) := by decide +kernel
theorem dAK_remove_23 : decode cAK_remove 23 = .ok (.iload_n 2, 1) := by decide +kernel
theorem dAK_remove_24 : decode cAK_remove 24 = .ok (.istore_n 3, 1) := by decide +kernel
theorem dAK_remove_25 : decode cAK_remove 25 = .ok (.iload_n 3, 1) := by decide +kernel
theorem dAK_remove_26 : decode cAK_remove 26 = .ok (.aload_n 0, 1) := by decide +kernel
theorem dAK_remove_27 : decode cAK_remove 27 = .ok (.getfield 22, 3) := by decide +kernel
theorem dAK_remove_30 : decode cAK_remove 30 = .ok (.if_icmp .ge 23, 3) := by decide +kernel
theorem dAK_remove_33 : decode cAK_remove 33 = .ok (.aload_n 0, 1) := by decide +kernel
theorem dAK_remove_34 : decode cAK_remove 34 = .ok (.getfield 9, 3) := by decide +kernel
theorem dAK_remove_37 : decode cAK_remove 37 = .ok (.iload_n 3, 1) := by decide +kernel
theorem dAK_remove_38 : decode cAK_remove 38 = .ok (.aload_n 0, 1) := by decide +kernel
theorem dAK_remove_39 : decode cAK_remove 39 = .ok (.getfield 9, 3) := by decide +kernel
theorem dAK_remove_42 : decode cAK_remove 42 = .ok (.iload_n 3, 1) := by decide +kernel
theorem dAK_remove_43 : decode cAK_remove 43 = .ok (.iconst 1, 1) := by decide +kernel
theorem dAK_remove_44 : decode cAK_remove 44 = .ok (.iadd, 1) := by decide +kernel
theorem dAK_remove_45 : decode cAK_remove 45 = .ok (.iaload, 1) := by decide +kernel
theorem dAK_remove_46 : decode cAK_remove 46 = .ok (.iastore, 1) := by decide +kernel
theorem dAK_remove_47 : decode cAK_remove 47 = .ok (.iinc 3 1, 3) := by decide +kernel
theorem dAK_remove_50 : decode cAK_remove 50 = .ok (.goto (-25), 3) := by decide +kernel
theorem dAK_remove_53 : decode cAK_remove 53 = .ok (.iconst 1, 1) := by decide +kernel
theorem dAK_remove_54 : decode cAK_remove 54 = .ok (.ireturn, 1) := by decide +kernel
theorem dRO_init_0 : decode cRO_init 0 = .ok (.aload_n 0, 1) := by decide +kernel
theorem dRO_init_1 : decode cRO_init 1 = .ok (.invokespecial 3, 3) := by decide +kernel
theorem dRO_init_4 : decode cRO_init 4 = .ok (.aload_n 0, 1) := by decide +kernel
theorem dRO_init_5 : decode cRO_init 5 = .ok (.sipush 576, 3) := by decide +kernel
theorem dRO_init_8 : decode cRO_init 8 = .ok (.newarray .int, 2) := by decide +kernel
theorem dRO_init_10 : decode cRO_init 10 = .ok (.putfield 11, 3) := by decide +kernel
theorem dRO_init_13 : decode cRO_init 13 = .ok (.aload_n 0, 1) := by decide +kernel
theorem dRO_init_14 : decode cRO_init 14 = .ok (.iconst 0, 1) := by decide +kernel
theorem dRO_init_15 : decode cRO_init 15 = .ok (.putfield 15, 3) := by decide +kernel
theorem dRO_init_18 : decode cRO_init 18 = .ok (.return_, 1) := by decide +kernel
theorem dRO_clear_0 : decode cRO_clear 0 = .ok (.aload_n 0, 1) := by decide +kernel
theorem dRO_clear_1 : decode cRO_clear 1 = .ok (.iconst 0, 1) := by decide +kernel
theorem dRO_clear_2 : decode cRO_clear 2 = .ok (.putfield 15, 3) := by decide +kernel
theorem dRO_clear_5 : decode cRO_clear 5 = .ok (.return_, 1) := by decide +kernel
theorem dRO_size_0 : decode cRO_size 0 = .ok (.aload_n 0, 1) := by decide +kernel
theorem dRO_size_1 : decode cRO_size 1 = .ok (.getfield 15, 3) := by decide +kernel
theorem dRO_size_4 : decode cRO_size 4 = .ok (.ireturn, 1) := by decide +kernel
theorem dRO_add_0 : decode cRO_add 0 = .ok (.aload_n 0, 1) := by decide +kernel
theorem dRO_add_1 : decode cRO_add 1 = .ok (.getfield 15, 3) := by decide +kernel
theorem dRO_add_4 : decode cRO_add 4 = .ok (.sipush 144, 3) := by decide +kernel
theorem dRO_add_7 : decode cRO_add 7 = .ok (.if_icmp .lt 4, 3) := by decide +kernel
theorem dRO_add_10 : decode cRO_add 10 = .ok (.return_, 1) := by decide +kernel
theorem dRO_add_11 : decode cRO_add 11 = .ok (.aload_n 0, 1) := by decide +kernel
theorem dRO_add_12 : decode cRO_add 12 = .ok (.getfield 15, 3) := by decide +kernel
theorem dRO_add_15 : decode cRO_add 15 = .ok (.iconst 4, 1) := by decide +kernel
theorem dRO_add_16 : decode cRO_add 16 = .ok (.imul, 1) := by decide +kernel
theorem dRO_add_17 : decode cRO_add 17 = .ok (.istore 5, 2) := by decide +kernel
theorem dRO_add_19 : decode cRO_add 19 = .ok (.aload_n 0, 1) := by decide +kernel
theorem dRO_add_20 : decode cRO_add 20 = .ok (.getfield 11, 3) := by decide +kernel
theorem dRO_add_23 : decode cRO_add 23 = .ok (.iload 5, 2) := by decide +kernel
theorem dRO_add_25 : decode cRO_add 25 = .ok (.iload_n 1, 1) := by decide +kernel
theorem dRO_add_26 : decode cRO_add 26 = .ok (.iastore, 1) := by decide +kernel
theorem dRO_add_27 : decode cRO_add 27 = .ok (.aload_n 0, 1) := by decide +kernel
theorem dRO_add_28 : decode cRO_add 28 = .ok (.getfield 11, 3) := by decide +kernel
theorem dRO_add_31 : decode cRO_add 31 = .ok (.iload 5, 2) := by decide +kernel
theorem dRO_add_33 : decode cRO_add 33 = .ok (.iconst 1, 1) := by decide +kernel
theorem dRO_add_34 : decode cRO_add 34 = .ok (.iadd, 1) := by decide +kernel
theorem dRO_add_35 : decode cRO_add 35 = .ok (.iload_n 2, 1) := by decide +kernel
theorem dRO_add_36 : decode cRO_add 36 = .ok (.iastore, 1) := by decide +kernel
theorem dRO_add_37 : decode cRO_add 37 = .ok (.aload_n 0, 1) := by decide +kernel
theorem dRO_add_38 : decode cRO_add 38 = .ok (.getfield 11, 3) := by decide +kernel
theorem dRO_add_41 : decode cRO_add 41 = .ok (.iload 5, 2) := by decide +kernel
theorem dRO_add_43 : decode cRO_add 43 = .ok (.iconst 2, 1) := by decide +kernel
theorem dRO_add_44 : decode cRO_add 44 = .ok (.iadd, 1) := by decide +kernel
theorem dRO_add_45 : decode cRO_add 45 = .ok (.iload_n 3, 1) := by decide +kernel
theorem dRO_add_46 : decode cRO_add 46 = .ok (.iastore, 1) := by decide +kernel
theorem dRO_add_47 : decode cRO_add 47 = .ok (.aload_n 0, 1) := by decide +kernel
theorem dRO_add_48 : decode cRO_add 48 = .ok (.getfield 11, 3) := by decide +kernel
theorem dRO_add_51 : decode cRO_add 51 = .ok (.iload 5, 2) := by decide +kernel
theorem dRO_add_53 : decode cRO_add 53 = .ok (.iconst 3, 1) := by decide +kernel
theorem dRO_add_54 : decode cRO_add 54 = .ok (.iadd, 1) := by decide +kernel
theorem dRO_add_55 : decode cRO_add 55 = .ok (.iload 4, 2) := by decide +kernel
theorem dRO_add_57 : decode cRO_add 57 = .ok (.iastore, 1) := by decide +kernel
theorem dRO_add_58 : decode cRO_add 58 = .ok (.aload_n 0, 1) := by decide +kernel
theorem dRO_add_59 : decode cRO_add 59 = .ok (.dup, 1) := by decide +kernel
theorem dRO_add_60 : decode cRO_add 60 = .ok (.getfield 15, 3) := by decide +kernel
theorem dRO_add_63 : decode cRO_add 63 = .ok (.iconst 1, 1) := by decide +kernel
theorem dRO_add_64 : decode cRO_add 64 = .ok (.iadd, 1) := by decide +kernel
theorem dRO_add_65 : decode cRO_add 65 = .ok (.putfield 15, 3) := by decide +kernel
theorem dRO_add_68 : decode cRO_add 68 = .ok (.return_, 1) := by decide +kernel
theorem dRO_cell_0 : decode cRO_cell 0 = .ok (.iload_n 1, 1) := by decide +kernel
theorem dRO_cell_1 : decode cRO_cell 1 = .ok (.ifCond .lt 20, 3) := by decide +kernel
theorem dRO_cell_4 : decode cRO_cell 4 = .ok (.iload_n 1, 1) := by decide +kernel
theorem dRO_cell_5 : decode cRO_cell 5 = .ok (.aload_n 0, 1) := by decide +kernel
theorem dRO_cell_6 : decode cRO_cell 6 = .ok (.getfield 15, 3) := by decide +kernel
theorem dRO_cell_9 : decode cRO_cell 9 = .ok (.if_icmp .ge 12, 3) := by decide +kernel
theorem dRO_cell_12 : decode cRO_cell 12 = .ok (.iload_n 2, 1) := by decide +kernel
theorem dRO_cell_13 : decode cRO_cell 13 = .ok (.ifCond .lt 8, 3) := by decide +kernel
theorem dRO_cell_16 : decode cRO_cell 16 = .ok (.iload_n 2, 1) := by decide +kernel
theorem dRO_cell_17 : decode cRO_cell 17 = .ok (.iconst 4, 1) := by decide +kernel
theorem dRO_cell_18 : decode cRO_cell 18 = .ok (.if_icmp .lt 5, 3) := by decide +kernel
theorem dRO_cell_21 : decode cRO_cell 21 = .ok (.iconst (-1), 1) := by decide +kernel
theorem dRO_cell_22 : decode cRO_cell 22 = .ok (.ireturn, 1) := by decide +kernel
theorem dRO_cell_23 : decode cRO_cell 23 = .ok (.aload_n 0, 1) := by decide +kernel
theorem dRO_cell_24 : decode cRO_cell 24 = .ok (.getfield 11, 3) := by decide +kernel
theorem dRO_cell_27 : decode cRO_cell 27 = .ok (.iload_n 1, 1) := by decide +kernel
theorem dRO_cell_28 : decode cRO_cell 28 = .ok (.iconst 4, 1) := by decide +kernel
theorem dRO_cell_29 : decode cRO_cell 29 = .ok (.imul, 1) := by decide +kernel
theorem dRO_cell_30 : decode cRO_cell 30 = .ok (.iload_n 2, 1) := by decide +kernel
theorem dRO_cell_31 : decode cRO_cell 31 = .ok (.iadd, 1) := by decide +kernel
theorem dRO_cell_32 : decode cRO_cell 32 = .ok (.iaload, 1) := by decide +kernel
theorem dRO_cell_33 : decode cRO_cell 33 = .ok (.ireturn, 1) := by decide +kernel
theorem dAR_fill_0 : decode cAR_fill 0 = .ok (.iconst 0, 1) := by decide +kernel
theorem dAR_fill_1 : decode cAR_fill 1 = .ok (.istore_n 2, 1) := by decide +kernel
theorem dAR_fill_2 : decode cAR_fill 2 = .ok (.aload_n 0, 1) := by decide +kernel
theorem dAR_fill_3 : decode cAR_fill 3 = .ok (.arraylength, 1) := by decide +kernel
theorem dAR_fill_4 : decode cAR_fill 4 = .ok (.istore_n 3, 1) := by decide +kernel
theorem dAR_fill_5 : decode cAR_fill 5 = .ok (.iload_n 2, 1) := by decide +kernel
theorem dAR_fill_6 : decode cAR_fill 6 = .ok (.iload_n 3, 1) := by decide +kernel
theorem dAR_fill_7 : decode cAR_fill 7 = .ok (.if_icmp .ge 13, 3) := by decide +kernel
theorem dAR_fill_10 : decode cAR_fill 10 = .ok (.aload_n 0, 1) := by decide +kernel
theorem dAR_fill_11 : decode cAR_fill 11 = .ok (.iload_n 2, 1) := by decide +kernel
theorem dAR_fill_12 : decode cAR_fill 12 = .ok (.iload_n 1, 1) := by decide +kernel
theorem dAR_fill_13 : decode cAR_fill 13 = .ok (.iastore, 1) := by decide +kernel
theorem dAR_fill_14 : decode cAR_fill 14 = .ok (.iinc 2 1, 3) := by decide +kernel
theorem dAR_fill_17 : decode cAR_fill 17 = .ok (.goto (-12), 3) := by decide +kernel
theorem dAR_fill_20 : decode cAR_fill 20 = .ok (.return_, 1) := by decide +kernel
theorem dTC_init_0 : decode cTC_init 0 = .ok (.aload_n 0, 1) := by decide +kernel
theorem dTC_init_1 : decode cTC_init 1 = .ok (.invokespecial 3, 3) := by decide +kernel
theorem dTC_init_4 : decode cTC_init 4 = .ok (.aload_n 0, 1) := by decide +kernel
theorem dTC_init_5 : decode cTC_init 5 = .ok (.bipush 6, 2) := by decide +kernel
theorem dTC_init_7 : decode cTC_init 7 = .ok (.newarray .int, 2) := by decide +kernel
theorem dTC_init_9 : decode cTC_init 9 = .ok (.putfield 9, 3) := by decide +kernel
theorem dTC_init_12 : decode cTC_init 12 = .ok (.aload_n 0, 1) := by decide +kernel
theorem dTC_init_13 : decode cTC_init 13 = .ok (.iconst 0, 1) := by decide +kernel
theorem dTC_init_14 : decode cTC_init 14 = .ok (.putfield 13, 3) := by decide +kernel
theorem dTC_init_17 : decode cTC_init 17 = .ok (.aload_n 0, 1) := by decide +kernel
theorem dTC_init_18 : decode cTC_init 18 = .ok (.bipush 24, 2) := by decide +kernel
theorem dTC_init_20 : decode cTC_init 20 = .ok (.newarray .int, 2) := by decide +kernel
theorem dTC_init_22 : decode cTC_init 22 = .ok (.putfield 17, 3) := by decide +kernel
theorem dTC_init_25 : decode cTC_init 25 = .ok (.aload_n 0, 1) := by decide +kernel
theorem dTC_init_26 : decode cTC_init 26 = .ok (.bipush 24, 2) := by decide +kernel
theorem dTC_init_28 : decode cTC_init 28 = .ok (.newarray .int, 2) := by decide +kernel
theorem dTC_init_30 : decode cTC_init 30 = .ok (.putfield 20, 3) := by decide +kernel
theorem dTC_init_33 : decode cTC_init 33 = .ok (.aload_n 0, 1) := by decide +kernel
theorem dTC_init_34 : decode cTC_init 34 = .ok (.bipush 24, 2) := by decide +kernel
theorem dTC_init_36 : decode cTC_init 36 = .ok (.newarray .int, 2) := by decide +kernel
theorem dTC_init_38 : decode cTC_init 38 = .ok (.putfield 23, 3) := by decide +kernel
theorem dTC_init_41 : decode cTC_init 41 = .ok (.aload_n 0, 1) := by decide +kernel
theorem dTC_init_42 : decode cTC_init 42 = .ok (.bipush 24, 2) := by decide +kernel
theorem dTC_init_44 : decode cTC_init 44 = .ok (.newarray .int, 2) := by decide +kernel
theorem dTC_init_46 : decode cTC_init 46 = .ok (.putfield 26, 3) := by decide +kernel
theorem dTC_init_49 : decode cTC_init 49 = .ok (.aload_n 0, 1) := by decide +kernel
theorem dTC_init_50 : decode cTC_init 50 = .ok (.bipush 24, 2) := by decide +kernel
theorem dTC_init_52 : decode cTC_init 52 = .ok (.newarray .int, 2) := by decide +kernel
theorem dTC_init_54 : decode cTC_init 54 = .ok (.putfield 29, 3) := by decide +kernel
theorem dTC_init_57 : decode cTC_init 57 = .ok (.aload_n 0, 1) := by decide +kernel
theorem dTC_init_58 : decode cTC_init 58 = .ok (.bipush 24, 2) := by decide +kernel
theorem dTC_init_60 : decode cTC_init 60 = .ok (.newarray .int, 2) := by decide +kernel
theorem dTC_init_62 : decode cTC_init 62 = .ok (.putfield 32, 3) := by decide +kernel
theorem dTC_init_65 : decode cTC_init 65 = .ok (.aload_n 0, 1) := by decide +kernel
theorem dTC_init_66 : decode cTC_init 66 = .ok (.iconst 0, 1) := by decide +kernel
theorem dTC_init_67 : decode cTC_init 67 = .ok (.putfield 35, 3) := by decide +kernel
theorem dTC_init_70 : decode cTC_init 70 = .ok (.aload_n 0, 1) := by decide +kernel
theorem dTC_init_71 : decode cTC_init 71 = .ok (.iconst 0, 1) := by decide +kernel
theorem dTC_init_72 : decode cTC_init 72 = .ok (.putfield 38, 3) := by decide +kernel
theorem dTC_init_75 : decode cTC_init 75 = .ok (.aload_n 0, 1) := by decide +kernel
theorem dTC_init_76 : decode cTC_init 76 = .ok (.new 41, 3) := by decide +kernel
theorem dTC_init_79 : decode cTC_init 79 = .ok (.dup, 1) := by decide +kernel
theorem dTC_init_80 : decode cTC_init 80 = .ok (.invokespecial 43, 3) := by decide +kernel
theorem dTC_init_83 : decode cTC_init 83 = .ok (.putfield 44, 3) := by decide +kernel
theorem dTC_init_86 : decode cTC_init 86 = .ok (.aload_n 0, 1) := by decide +kernel
theorem dTC_init_87 : decode cTC_init 87 = .ok (.bipush 8, 2) := by decide +kernel
theorem dTC_init_89 : decode cTC_init 89 = .ok (.newarray .int, 2) := by decide +kernel
theorem dTC_init_91 : decode cTC_init 91 = .ok (.putfield 48, 3) := by decide +kernel
theorem dTC_init_94 : decode cTC_init 94 = .ok (.aload_n 0, 1) := by decide +kernel
theorem dTC_init_95 : decode cTC_init 95 = .ok (.bipush 8, 2) := by decide +kernel
theorem dTC_init_97 : decode cTC_init 97 = .ok (.newarray .int, 2) := by decide +kernel
theorem dTC_init_99 : decode cTC_init 99 = .ok (.putfield 51, 3) := by decide +kernel
theorem dTC_init_102 : decode cTC_init 102 = .ok (.aload_n 0, 1) := by decide +kernel
theorem dTC_init_103 : decode cTC_init 103 = .ok (.new 54, 3) := by decide +kernel
theorem dTC_init_106 : decode cTC_init 106 = .ok (.dup, 1) := by decide +kernel
theorem dTC_init_107 : decode cTC_init 107 = .ok (.invokespecial 56, 3) := by decide +kernel
theorem dTC_init_110 : decode cTC_init 110 = .ok (.putfield 57, 3) := by decide +kernel
theorem dTC_init_113 : decode cTC_init 113 = .ok (.aload_n 0, 1) := by decide +kernel
theorem dTC_init_114 : decode cTC_init 114 = .ok (.bipush 24, 2) := by decide +kernel
theorem dTC_init_116 : decode cTC_init 116 = .ok (.newarray .int, 2) := by decide +kernel
theorem dTC_init_118 : decode cTC_init 118 = .ok (.putfield 61, 3) := by decide +kernel
theorem dTC_init_121 : decode cTC_init 121 = .ok (.aload_n 0, 1) := by decide +kernel
theorem dTC_init_122 : decode cTC_init 122 = .ok (.bipush 24, 2) := by decide +kernel
theorem dTC_init_124 : decode cTC_init 124 = .ok (.newarray .int, 2) := by decide +kernel
theorem dTC_init_126 : decode cTC_init 126 = .ok (.putfield 64, 3) := by decide +kernel
theorem dTC_init_129 : decode cTC_init 129 = .ok (.aload_n 0, 1) := by decide +kernel
theorem dTC_init_130 : decode cTC_init 130 = .ok (.bipush 24, 2) := by decide +kernel
theorem dTC_init_132 : decode cTC_init 132 = .ok (.newarray .int, 2) := by decide +kernel
theorem dTC_init_134 : decode cTC_init 134 = .ok (.putfield 67, 3) := by decide +kernel
theorem dTC_init_137 : decode cTC_init 137 = .ok (.aload_n 0, 1) := by decide +kernel
theorem dTC_init_138 : decode cTC_init 138 = .ok (.bipush 8, 2) := by decide +kernel
theorem dTC_init_140 : decode cTC_init 140 = .ok (.newarray .int, 2) := by decide +kernel
theorem dTC_init_142 : decode cTC_init 142 = .ok (.putfield 70, 3) := by decide +kernel
theorem dTC_init_145 : decode cTC_init 145 = .ok (.aload_n 0, 1) := by decide +kernel
theorem dTC_init_146 : decode cTC_init 146 = .ok (.bipush 24, 2) := by decide +kernel
theorem dTC_init_148 : decode cTC_init 148 = .ok (.newarray .int, 2) := by decide +kernel
theorem dTC_init_150 : decode cTC_init 150 = .ok (.putfield 73, 3) := by decide +kernel
theorem dTC_init_153 : decode cTC_init 153 = .ok (.aload_n 0, 1) := by decide +kernel
theorem dTC_init_154 : decode cTC_init 154 = .ok (.getfield 48, 3) := by decide +kernel
theorem dTC_init_157 : decode cTC_init 157 = .ok (.iconst (-1), 1) := by decide +kernel
theorem dTC_init_158 : decode cTC_init 158 = .ok (.invokestatic 76, 3) := by decide +kernel
theorem dTC_init_161 : decode cTC_init 161 = .ok (.aload_n 0, 1) := by decide +kernel
theorem dTC_init_162 : decode cTC_init 162 = .ok (.getfield 51, 3) := by decide +kernel
theorem dTC_init_165 : decode cTC_init 165 = .ok (.iconst (-1), 1) := by decide +kernel
theorem dTC_init_166 : decode cTC_init 166 = .ok (.invokestatic 76, 3) := by decide +kernel
theorem dTC_init_169 : decode cTC_init 169 = .ok (.return_, 1) := by decide +kernel
theorem dTC_platform_0 : decode cTC_platform 0 = .ok (.aload_n 0, 1) := by decide +kernel
theorem dTC_platform_1 : decode cTC_platform 1 = .ok (.getfield 13, 3) := by decide +kernel
theorem dTC_platform_4 : decode cTC_platform 4 = .ok (.bipush 6, 2) := by decide +kernel
theorem dTC_platform_6 : decode cTC_platform 6 = .ok (.if_icmp .lt 5, 3) := by decide +kernel
theorem dTC_platform_9 : decode cTC_platform 9 = .ok (.iconst (-1), 1) := by decide +kernel
theorem dTC_platform_10 : decode cTC_platform 10 = .ok (.ireturn, 1) := by decide +kernel
theorem dTC_platform_11 : decode cTC_platform 11 = .ok (.aload_n 0, 1) := by decide +kernel
theorem dTC_platform_12 : decode cTC_platform 12 = .ok (.getfield 9, 3) := by decide +kernel
theorem dTC_platform_15 : decode cTC_platform 15 = .ok (.aload_n 0, 1) := by decide +kernel
theorem dTC_platform_16 : decode cTC_platform 16 = .ok (.getfield 13, 3) := by decide +kernel
theorem dTC_platform_19 : decode cTC_platform 19 = .ok (.iload_n 1, 1) := by decide +kernel
theorem dTC_platform_20 : decode cTC_platform 20 = .ok (.iastore, 1) := by decide +kernel
theorem dTC_platform_21 : decode cTC_platform 21 = .ok (.aload_n 0, 1) := by decide +kernel
theorem dTC_platform_22 : decode cTC_platform 22 = .ok (.dup, 1) := by decide +kernel
theorem dTC_platform_23 : decode cTC_platform 23 = .ok (.getfield 13, 3) := by decide +kernel
theorem dTC_platform_26 : decode cTC_platform 26 = .ok (.iconst 1, 1) := by decide +kernel
theorem dTC_platform_27 : decode cTC_platform 27 = .ok (.iadd, 1) := by decide +kernel
theorem dTC_platform_28 : decode cTC_platform 28 = .ok (.putfield 13, 3) := by decide +kernel
theorem dTC_platform_31 : decode cTC_platform 31 = .ok (.aload_n 0, 1) := by decide +kernel
theorem dTC_platform_32 : decode cTC_platform 32 = .ok (.getfield 13, 3) := by decide +kernel
theorem dTC_platform_35 : decode cTC_platform 35 = .ok (.iconst 1, 1) := by decide +kernel
theorem dTC_platform_36 : decode cTC_platform 36 = .ok (.isub, 1) := by decide +kernel
theorem dTC_platform_37 : decode cTC_platform 37 = .ok (.ireturn, 1) := by decide +kernel
theorem dTC_tool_0 : decode cTC_tool 0 = .ok (.aload_n 0, 1) := by decide +kernel
theorem dTC_tool_1 : decode cTC_tool 1 = .ok (.getfield 35, 3) := by decide +kernel
theorem dTC_tool_4 : decode cTC_tool 4 = .ok (.bipush 24, 2) := by decide +kernel
theorem dTC_tool_6 : decode cTC_tool 6 = .ok (.if_icmp .ge 10, 3) := by decide +kernel
theorem dTC_tool_9 : decode cTC_tool 9 = .ok (.iload_n 1, 1) := by decide +kernel
theorem dTC_tool_10 : decode cTC_tool 10 = .ok (.invokestatic 82, 3) := by decide +kernel
theorem dTC_tool_13 : decode cTC_tool 13 = .ok (.ifCond .ne 5, 3) := by decide +kernel
theorem dTC_tool_16 : decode cTC_tool 16 = .ok (.iconst (-1), 1) := by decide +kernel
theorem dTC_tool_17 : decode cTC_tool 17 = .ok (.ireturn, 1) := by decide +kernel
theorem dTC_tool_18 : decode cTC_tool 18 = .ok (.aload_n 0, 1) := by decide +kernel
theorem dTC_tool_19 : decode cTC_tool 19 = .ok (.getfield 35, 3) := by decide +kernel
theorem dTC_tool_22 : decode cTC_tool 22 = .ok (.istore 5, 2) := by decide +kernel
theorem dTC_tool_24 : decode cTC_tool 24 = .ok (.aload_n 0, 1) := by decide +kernel
theorem dTC_tool_25 : decode cTC_tool 25 = .ok (.getfield 17, 3) := by decide +kernel
theorem dTC_tool_28 : decode cTC_tool 28 = .ok (.iload 5, 2) := by decide +kernel
theorem dTC_tool_30 : decode cTC_tool 30 = .ok (.iload_n 1, 1) := by decide +kernel
theorem dTC_tool_31 : decode cTC_tool 31 = .ok (.iastore, 1) := by decide +kernel
theorem dTC_tool_32 : decode cTC_tool 32 = .ok (.aload_n 0, 1) := by decide +kernel
theorem dTC_tool_33 : decode cTC_tool 33 = .ok (.getfield 20, 3) := by decide +kernel
theorem dTC_tool_36 : decode cTC_tool 36 = .ok (.iload 5, 2) := by decide +kernel
theorem dTC_tool_38 : decode cTC_tool 38 = .ok (.iload_n 2, 1) := by decide +kernel
theorem dTC_tool_39 : decode cTC_tool 39 = .ok (.iastore, 1) := by decide +kernel
theorem dTC_tool_40 : decode cTC_tool 40 = .ok (.aload_n 0, 1) := by decide +kernel
theorem dTC_tool_41 : decode cTC_tool 41 = .ok (.getfield 23, 3) := by decide +kernel
theorem dTC_tool_44 : decode cTC_tool 44 = .ok (.iload 5, 2) := by decide +kernel
theorem dTC_tool_46 : decode cTC_tool 46 = .ok (.iload_n 3, 1) := by decide +kernel
theorem dTC_tool_47 : decode cTC_tool 47 = .ok (.iastore, 1) := by decide +kernel
theorem dTC_tool_48 : decode cTC_tool 48 = .ok (.aload_n 0, 1) := by decide +kernel
theorem dTC_tool_49 : decode cTC_tool 49 = .ok (.getfield 26, 3) := by decide +kernel
theorem dTC_tool_52 : decode cTC_tool 52 = .ok (.iload 5, 2) := by decide +kernel
theorem dTC_tool_54 : decode cTC_tool 54 = .ok (.iload 4, 2) := by decide +kernel
theorem dTC_tool_56 : decode cTC_tool 56 = .ok (.iastore, 1) := by decide +kernel
theorem dTC_tool_57 : decode cTC_tool 57 = .ok (.aload_n 0, 1) := by decide +kernel
theorem dTC_tool_58 : decode cTC_tool 58 = .ok (.getfield 32, 3) := by decide +kernel
theorem dTC_tool_61 : decode cTC_tool 61 = .ok (.iload 5, 2) := by decide +kernel
theorem dTC_tool_63 : decode cTC_tool 63 = .ok (.iload 5, 2) := by decide +kernel
theorem dTC_tool_65 : decode cTC_tool 65 = .ok (.iastore, 1) := by decide +kernel
theorem dTC_tool_66 : decode cTC_tool 66 = .ok (.aload_n 0, 1) := by decide +kernel
theorem dTC_tool_67 : decode cTC_tool 67 = .ok (.dup, 1) := by decide +kernel
theorem dTC_tool_68 : decode cTC_tool 68 = .ok (.getfield 35, 3) := by decide +kernel
theorem dTC_tool_71 : decode cTC_tool 71 = .ok (.iconst 1, 1) := by decide +kernel
theorem dTC_tool_72 : decode cTC_tool 72 = .ok (.iadd, 1) := by decide +kernel
theorem dTC_tool_73 : decode cTC_tool 73 = .ok (.putfield 35, 3) := by decide +kernel
theorem dTC_tool_76 : decode cTC_tool 76 = .ok (.iload 5, 2) := by decide +kernel
theorem dTC_tool_78 : decode cTC_tool 78 = .ok (.ireturn, 1) := by decide +kernel
theorem dTC_order_0 : decode cTC_order 0 = .ok (.aload_n 0, 1) := by decide +kernel
theorem dTC_order_1 : decode cTC_order 1 = .ok (.iload_n 1, 1) := by decide +kernel
theorem dTC_order_2 : decode cTC_order 2 = .ok (.invokevirtual 86, 3) := by decide +kernel
theorem dTC_order_5 : decode cTC_order 5 = .ok (.ifCond .eq 15, 3) := by decide +kernel
theorem dTC_order_8 : decode cTC_order 8 = .ok (.iload_n 2, 1) := by decide +kernel
theorem dTC_order_9 : decode cTC_order 9 = .ok (.ifCond .lt 11, 3) := by decide +kernel
theorem dTC_order_12 : decode cTC_order 12 = .ok (.iload_n 2, 1) := by decide +kernel
theorem dTC_order_13 : decode cTC_order 13 = .ok (.aload_n 0, 1) := by decide +kernel
theorem dTC_order_14 : decode cTC_order 14 = .ok (.getfield 35, 3) := by decide +kernel
theorem dTC_order_17 : decode cTC_order 17 = .ok (.if_icmp .lt 5, 3) := by decide +kernel
theorem dTC_order_20 : decode cTC_order 20 = .ok (.iconst 0, 1) := by decide +kernel
theorem dTC_order_21 : decode cTC_order 21 = .ok (.ireturn, 1) := by decide +kernel
theorem dTC_order_22 : decode cTC_order 22 = .ok (.aload_n 0, 1) := by decide +kernel
theorem dTC_order_23 : decode cTC_order 23 = .ok (.iload_n 1, 1) := by decide +kernel
theorem dTC_order_24 : decode cTC_order 24 = .ok (.invokevirtual 89, 3) := by decide +kernel
theorem dTC_order_27 : decode cTC_order 27 = .ok (.istore_n 3, 1) := by decide +kernel
theorem dTC_order_28 : decode cTC_order 28 = .ok (.iload_n 3, 1) := by decide +kernel
theorem dTC_order_29 : decode cTC_order 29 = .ok (.istore 4, 2) := by decide +kernel
theorem dTC_order_31 : decode cTC_order 31 = .ok (.iload 4, 2) := by decide +kernel
theorem dTC_order_33 : decode cTC_order 33 = .ok (.iload_n 2, 1) := by decide +kernel
theorem dTC_order_34 : decode cTC_order 34 = .ok (.if_icmp .ge 25, 3) := by decide +kernel
theorem dTC_order_37 : decode cTC_order 37 = .ok (.aload_n 0, 1) := by decide +kernel
theorem dTC_order_38 : decode cTC_order 38 = .ok (.getfield 32, 3) := by decide +kernel
theorem dTC_order_41 : decode cTC_order 41 = .ok (.iload 4, 2) := by decide +kernel
theorem dTC_order_43 : decode cTC_order 43 = .ok (.aload_n 0, 1) := by decide +kernel
theorem dTC_order_44 : decode cTC_order 44 = .ok (.getfield 32, 3) := by decide +kernel
theorem dTC_order_47 : decode cTC_order 47 = .ok (.iload 4, 2) := by decide +kernel
theorem dTC_order_49 : decode cTC_order 49 = .ok (.iconst 1, 1) := by decide +kernel
theorem dTC_order_50 : decode cTC_order 50 = .ok (.iadd, 1) := by decide +kernel
theorem dTC_order_51 : decode cTC_order 51 = .ok (.iaload, 1) := by decide +kernel
theorem dTC_order_52 : decode cTC_order 52 = .ok (.iastore, 1) := by decide +kernel
theorem dTC_order_53 : decode cTC_order 53 = .ok (.iinc 4 1, 3) := by decide +kernel
theorem dTC_order_56 : decode cTC_order 56 = .ok (.goto (-25), 3) := by decide +kernel
theorem dTC_order_59 : decode cTC_order 59 = .ok (.iload_n 3, 1) := by decide +kernel
theorem dTC_order_60 : decode cTC_order 60 = .ok (.istore 4, 2) := by decide +kernel
theorem dTC_order_62 : decode cTC_order 62 = .ok (.iload 4, 2) := by decide +kernel
theorem dTC_order_64 : decode cTC_order 64 = .ok (.iload_n 2, 1) := by decide +kernel
theorem dTC_order_65 : decode cTC_order 65 = .ok (.if_icmp .le 25, 3) := by decide +kernel
theorem dTC_order_68 : decode cTC_order 68 = .ok (.aload_n 0, 1) := by decide +kernel
theorem dTC_order_69 : decode cTC_order 69 = .ok (.getfield 32, 3) := by decide +kernel
theorem dTC_order_72 : decode cTC_order 72 = .ok (.iload 4, 2) := by decide +kernel
theorem dTC_order_74 : decode cTC_order 74 = .ok (.aload_n 0, 1) := by decide +kernel
theorem dTC_order_75 : decode cTC_order 75 = .ok (.getfield 32, 3) := by decide +kernel
theorem dTC_order_78 : decode cTC_order 78 = .ok (.iload 4, 2) := by decide +kernel
theorem dTC_order_80 : decode cTC_order 80 = .ok (.iconst 1, 1) := by decide +kernel
theorem dTC_order_81 : decode cTC_order 81 = .ok (.isub, 1) := by decide +kernel
theorem dTC_order_82 : decode cTC_order 82 = .ok (.iaload, 1) := by decide +kernel
theorem dTC_order_83 : decode cTC_order 83 = .ok (.iastore, 1) := by decide +kernel
theorem dTC_order_84 : decode cTC_order 84 = .ok (.iinc 4 (-1), 3) := by decide +kernel
theorem dTC_order_87 : decode cTC_order 87 = .ok (.goto (-25), 3) := by decide +kernel
theorem dTC_order_90 : decode cTC_order 90 = .ok (.aload_n 0, 1) := by decide +kernel
theorem dTC_order_91 : decode cTC_order 91 = .ok (.getfield 32, 3) := by decide +kernel
theorem dTC_order_94 : decode cTC_order 94 = .ok (.iload_n 2, 1) := by decide +kernel
theorem dTC_order_95 : decode cTC_order 95 = .ok (.iload_n 1, 1) := by decide +kernel
theorem dTC_order_96 : decode cTC_order 96 = .ok (.iastore, 1) := by decide +kernel
theorem dTC_order_97 : decode cTC_order 97 = .ok (.iconst 1, 1) := by decide +kernel
theorem dTC_order_98 : decode cTC_order 98 = .ok (.ireturn, 1) := by decide +kernel
theorem dTC_needs_0 : decode cTC_needs 0 = .ok (.aload_n 0, 1) := by decide +kernel
theorem dTC_needs_1 : decode cTC_needs 1 = .ok (.iload_n 1, 1) := by decide +kernel
theorem dTC_needs_2 : decode cTC_needs 2 = .ok (.invokevirtual 86, 3) := by decide +kernel
theorem dTC_needs_5 : decode cTC_needs 5 = .ok (.ifCond .eq 10, 3) := by decide +kernel
theorem dTC_needs_8 : decode cTC_needs 8 = .ok (.iload_n 2, 1) := by decide +kernel
theorem dTC_needs_9 : decode cTC_needs 9 = .ok (.invokestatic 82, 3) := by decide +kernel
theorem dTC_needs_12 : decode cTC_needs 12 = .ok (.ifCond .ne 5, 3) := by decide +kernel
theorem dTC_needs_15 : decode cTC_needs 15 = .ok (.iconst 0, 1) := by decide +kernel
theorem dTC_needs_16 : decode cTC_needs 16 = .ok (.ireturn, 1) := by decide +kernel
theorem dTC_needs_17 : decode cTC_needs 17 = .ok (.aload_n 0, 1) := by decide +kernel
theorem dTC_needs_18 : decode cTC_needs 18 = .ok (.getfield 29, 3) := by decide +kernel
theorem dTC_needs_21 : decode cTC_needs 21 = .ok (.iload_n 1, 1) := by decide +kernel
theorem dTC_needs_22 : decode cTC_needs 22 = .ok (.iaload, 1) := by decide +kernel
theorem dTC_needs_23 : decode cTC_needs 23 = .ok (.iload_n 2, 1) := by decide +kernel
theorem dTC_needs_24 : decode cTC_needs 24 = .ok (.invokestatic 93, 3) := by decide +kernel
theorem dTC_needs_27 : decode cTC_needs 27 = .ok (.ifCond .ne 12, 3) := by decide +kernel
theorem dTC_needs_30 : decode cTC_needs 30 = .ok (.aload_n 0, 1) := by decide +kernel
theorem dTC_needs_31 : decode cTC_needs 31 = .ok (.getfield 38, 3) := by decide +kernel
theorem dTC_needs_34 : decode cTC_needs 34 = .ok (.bipush 40, 2) := by decide +kernel
theorem dTC_needs_36 : decode cTC_needs 36 = .ok (.if_icmp .lt 5, 3) := by decide +kernel
theorem dTC_needs_39 : decode cTC_needs 39 = .ok (.iconst 0, 1) := by decide +kernel
theorem dTC_needs_40 : decode cTC_needs 40 = .ok (.ireturn, 1) := by decide +kernel
theorem dTC_needs_41 : decode cTC_needs 41 = .ok (.aload_n 0, 1) := by decide +kernel
theorem dTC_needs_42 : decode cTC_needs 42 = .ok (.getfield 29, 3) := by decide +kernel
theorem dTC_needs_45 : decode cTC_needs 45 = .ok (.iload_n 1, 1) := by decide +kernel
theorem dTC_needs_46 : decode cTC_needs 46 = .ok (.dup2, 1) := by decide +kernel
theorem dTC_needs_47 : decode cTC_needs 47 = .ok (.iaload, 1) := by decide +kernel
theorem dTC_needs_48 : decode cTC_needs 48 = .ok (.iconst 1, 1) := by decide +kernel
theorem dTC_needs_49 : decode cTC_needs 49 = .ok (.iload_n 2, 1) := by decide +kernel
theorem dTC_needs_50 : decode cTC_needs 50 = .ok (.ishl, 1) := by decide +kernel
theorem dTC_needs_51 : decode cTC_needs 51 = .ok (.ior, 1) := by decide +kernel
theorem dTC_needs_52 : decode cTC_needs 52 = .ok (.iastore, 1) := by decide +kernel
theorem dTC_needs_53 : decode cTC_needs 53 = .ok (.aload_n 0, 1) := by decide +kernel
theorem dTC_needs_54 : decode cTC_needs 54 = .ok (.dup, 1) := by decide +kernel
theorem dTC_needs_55 : decode cTC_needs 55 = .ok (.getfield 38, 3) := by decide +kernel
theorem dTC_needs_58 : decode cTC_needs 58 = .ok (.iconst 1, 1) := by decide +kernel
theorem dTC_needs_59 : decode cTC_needs 59 = .ok (.iadd, 1) := by decide +kernel
theorem dTC_needs_60 : decode cTC_needs 60 = .ok (.putfield 38, 3) := by decide +kernel
theorem dTC_needs_63 : decode cTC_needs 63 = .ok (.iconst 1, 1) := by decide +kernel
theorem dTC_needs_64 : decode cTC_needs 64 = .ok (.ireturn, 1) := by decide +kernel
theorem dTC_ask_0 : decode cTC_ask 0 = .ok (.iload_n 1, 1) := by decide +kernel
theorem dTC_ask_1 : decode cTC_ask 1 = .ok (.invokestatic 82, 3) := by decide +kernel
theorem dTC_ask_4 : decode cTC_ask 4 = .ok (.ifCond .ne 5, 3) := by decide +kernel
theorem dTC_ask_7 : decode cTC_ask 7 = .ok (.iconst 0, 1) := by decide +kernel
theorem dTC_ask_8 : decode cTC_ask 8 = .ok (.ireturn, 1) := by decide +kernel
theorem dTC_ask_9 : decode cTC_ask 9 = .ok (.aload_n 0, 1) := by decide +kernel
theorem dTC_ask_10 : decode cTC_ask 10 = .ok (.getfield 44, 3) := by decide +kernel
theorem dTC_ask_13 : decode cTC_ask 13 = .ok (.iload_n 1, 1) := by decide +kernel
theorem dTC_ask_14 : decode cTC_ask 14 = .ok (.iload_n 2, 1) := by decide +kernel
theorem dTC_ask_15 : decode cTC_ask 15 = .ok (.iload_n 3, 1) := by decide +kernel
theorem dTC_ask_16 : decode cTC_ask 16 = .ok (.invokevirtual 97, 3) := by decide +kernel
theorem dTC_ask_19 : decode cTC_ask 19 = .ok (.iconst 1, 1) := by decide +kernel
theorem dTC_ask_20 : decode cTC_ask 20 = .ok (.ireturn, 1) := by decide +kernel
theorem dTC_drop_0 : decode cTC_drop 0 = .ok (.iload_n 1, 1) := by decide +kernel
theorem dTC_drop_1 : decode cTC_drop 1 = .ok (.invokestatic 82, 3) := by decide +kernel
theorem dTC_drop_4 : decode cTC_drop 4 = .ok (.ifCond .eq 18, 3) := by decide +kernel
theorem dTC_drop_7 : decode cTC_drop 7 = .ok (.aload_n 0, 1) := by decide +kernel
theorem dTC_drop_8 : decode cTC_drop 8 = .ok (.getfield 44, 3) := by decide +kernel
theorem dTC_drop_11 : decode cTC_drop 11 = .ok (.iload_n 1, 1) := by decide +kernel
theorem dTC_drop_12 : decode cTC_drop 12 = .ok (.invokevirtual 101, 3) := by decide +kernel
theorem dTC_drop_15 : decode cTC_drop 15 = .ok (.ifCond .eq 7, 3) := by decide +kernel
theorem dTC_drop_18 : decode cTC_drop 18 = .ok (.iconst 1, 1) := by decide +kernel
theorem dTC_drop_19 : decode cTC_drop 19 = .ok (.goto 4, 3) := by decide +kernel
theorem dTC_drop_22 : decode cTC_drop 22 = .ok (.iconst 0, 1) := by decide +kernel
theorem dTC_drop_23 : decode cTC_drop 23 = .ok (.ireturn, 1) := by decide +kernel
theorem dTC_force_0 : decode cTC_force 0 = .ok (.iload_n 1, 1) := by decide +kernel
theorem dTC_force_1 : decode cTC_force 1 = .ok (.iconst (-1), 1) := by decide +kernel
theorem dTC_force_2 : decode cTC_force 2 = .ok (.if_icmp .ne 19, 3) := by decide +kernel
theorem dTC_force_5 : decode cTC_force 5 = .ok (.iload_n 2, 1) := by decide +kernel
theorem dTC_force_6 : decode cTC_force 6 = .ok (.invokestatic 82, 3) := by decide +kernel
theorem dTC_force_9 : decode cTC_force 9 = .ok (.ifCond .eq 12, 3) := by decide +kernel
theorem dTC_force_12 : decode cTC_force 12 = .ok (.aload_n 0, 1) := by decide +kernel
theorem dTC_force_13 : decode cTC_force 13 = .ok (.getfield 48, 3) := by decide +kernel
theorem dTC_force_16 : decode cTC_force 16 = .ok (.iload_n 2, 1) := by decide +kernel
theorem dTC_force_17 : decode cTC_force 17 = .ok (.iconst (-1), 1) := by decide +kernel
theorem dTC_force_18 : decode cTC_force 18 = .ok (.iastore, 1) := by decide +kernel
theorem dTC_force_19 : decode cTC_force 19 = .ok (.iconst 1, 1) := by decide +kernel
theorem dTC_force_20 : decode cTC_force 20 = .ok (.ireturn, 1) := by decide +kernel
theorem dTC_force_21 : decode cTC_force 21 = .ok (.aload_n 0, 1) := by decide +kernel
theorem dTC_force_22 : decode cTC_force 22 = .ok (.iload_n 1, 1) := by decide +kernel
theorem dTC_force_23 : decode cTC_force 23 = .ok (.invokevirtual 86, 3) := by decide +kernel
theorem dTC_force_26 : decode cTC_force 26 = .ok (.ifCond .ne 5, 3) := by decide +kernel
theorem dTC_force_29 : decode cTC_force 29 = .ok (.iconst 0, 1) := by decide +kernel
theorem dTC_force_30 : decode cTC_force 30 = .ok (.ireturn, 1) := by decide +kernel
theorem dTC_force_31 : decode cTC_force 31 = .ok (.aload_n 0, 1) := by decide +kernel
theorem dTC_force_32 : decode cTC_force 32 = .ok (.getfield 48, 3) := by decide +kernel
theorem dTC_force_35 : decode cTC_force 35 = .ok (.aload_n 0, 1) := by decide +kernel
theorem dTC_force_36 : decode cTC_force 36 = .ok (.getfield 17, 3) := by decide +kernel
theorem dTC_force_39 : decode cTC_force 39 = .ok (.iload_n 1, 1) := by decide +kernel
theorem dTC_force_40 : decode cTC_force 40 = .ok (.iaload, 1) := by decide +kernel
theorem dTC_force_41 : decode cTC_force 41 = .ok (.iload_n 1, 1) := by decide +kernel
theorem dTC_force_42 : decode cTC_force 42 = .ok (.iastore, 1) := by decide +kernel
theorem dTC_force_43 : decode cTC_force 43 = .ok (.iconst 1, 1) := by decide +kernel
theorem dTC_force_44 : decode cTC_force 44 = .ok (.ireturn, 1) := by decide +kernel
theorem dTC_choose_0 : decode cTC_choose 0 = .ok (.aload_n 0, 1) := by decide +kernel
theorem dTC_choose_1 : decode cTC_choose 1 = .ok (.iload_n 1, 1) := by decide +kernel
theorem dTC_choose_2 : decode cTC_choose 2 = .ok (.invokevirtual 104, 3) := by decide +kernel
theorem dTC_choose_5 : decode cTC_choose 5 = .ok (.ifCond .ne 5, 3) := by decide +kernel
theorem dTC_choose_8 : decode cTC_choose 8 = .ok (.iconst (-1), 1) := by decide +kernel
theorem dTC_choose_9 : decode cTC_choose 9 = .ok (.ireturn, 1) := by decide +kernel
theorem dTC_choose_10 : decode cTC_choose 10 = .ok (.aload_n 0, 1) := by decide +kernel
theorem dTC_choose_11 : decode cTC_choose 11 = .ok (.invokevirtual 107, 3) := by decide +kernel
theorem dTC_choose_14 : decode cTC_choose 14 = .ok (.aload_n 0, 1) := by decide +kernel
theorem dTC_choose_15 : decode cTC_choose 15 = .ok (.getfield 57, 3) := by decide +kernel
theorem dTC_choose_18 : decode cTC_choose 18 = .ok (.invokevirtual 110, 3) := by decide +kernel
theorem dTC_choose_21 : decode cTC_choose 21 = .ok (.iconst 0, 1) := by decide +kernel
theorem dTC_choose_22 : decode cTC_choose 22 = .ok (.istore_n 2, 1) := by decide +kernel
theorem dTC_choose_23 : decode cTC_choose 23 = .ok (.iload_n 2, 1) := by decide +kernel
theorem dTC_choose_24 : decode cTC_choose 24 = .ok (.aload_n 0, 1) := by decide +kernel
theorem dTC_choose_25 : decode cTC_choose 25 = .ok (.getfield 13, 3) := by decide +kernel
theorem dTC_choose_28 : decode cTC_choose 28 = .ok (.if_icmp .ge 20, 3) := by decide +kernel
theorem dTC_choose_31 : decode cTC_choose 31 = .ok (.aload_n 0, 1) := by decide +kernel
theorem dTC_choose_32 : decode cTC_choose 32 = .ok (.iload_n 2, 1) := by decide +kernel
theorem dTC_choose_33 : decode cTC_choose 33 = .ok (.iload_n 1, 1) := by decide +kernel
theorem dTC_choose_34 : decode cTC_choose 34 = .ok (.invokevirtual 113, 3) := by decide +kernel
theorem dTC_choose_37 : decode cTC_choose 37 = .ok (.ifCond .eq 5, 3) := by decide +kernel
theorem dTC_choose_40 : decode cTC_choose 40 = .ok (.iload_n 2, 1) := by decide +kernel
theorem dTC_choose_41 : decode cTC_choose 41 = .ok (.ireturn, 1) := by decide +kernel
theorem dTC_choose_42 : decode cTC_choose 42 = .ok (.iinc 2 1, 3) := by decide +kernel
theorem dTC_choose_45 : decode cTC_choose 45 = .ok (.goto (-22), 3) := by decide +kernel
theorem dTC_choose_48 : decode cTC_choose 48 = .ok (.aload_n 0, 1) := by decide +kernel
theorem dTC_choose_49 : decode cTC_choose 49 = .ok (.getfield 51, 3) := by decide +kernel
theorem dTC_choose_52 : decode cTC_choose 52 = .ok (.iconst (-1), 1) := by decide +kernel
theorem dTC_choose_53 : decode cTC_choose 53 = .ok (.invokestatic 76, 3) := by decide +kernel
theorem dTC_choose_56 : decode cTC_choose 56 = .ok (.iconst (-1), 1) := by decide +kernel
theorem dTC_choose_57 : decode cTC_choose 57 = .ok (.ireturn, 1) := by decide +kernel
theorem dTC_chosen_0 : decode cTC_chosen 0 = .ok (.iload_n 1, 1) := by decide +kernel
theorem dTC_chosen_1 : decode cTC_chosen 1 = .ok (.invokestatic 82, 3) := by decide +kernel
theorem dTC_chosen_4 : decode cTC_chosen 4 = .ok (.ifCond .eq 12, 3) := by decide +kernel
theorem dTC_chosen_7 : decode cTC_chosen 7 = .ok (.aload_n 0, 1) := by decide +kernel
theorem dTC_chosen_8 : decode cTC_chosen 8 = .ok (.getfield 51, 3) := by decide +kernel
theorem dTC_chosen_11 : decode cTC_chosen 11 = .ok (.iload_n 1, 1) := by decide +kernel
theorem dTC_chosen_12 : decode cTC_chosen 12 = .ok (.iaload, 1) := by decide +kernel
theorem dTC_chosen_13 : decode cTC_chosen 13 = .ok (.goto 4, 3) := by decide +kernel
theorem dTC_chosen_16 : decode cTC_chosen 16 = .ok (.iconst (-1), 1) := by decide +kernel
theorem dTC_chosen_17 : decode cTC_chosen 17 = .ok (.ireturn, 1) := by decide +kernel
theorem dTC_rows_0 : decode cTC_rows 0 = .ok (.aload_n 0, 1) := by decide +kernel
theorem dTC_rows_1 : decode cTC_rows 1 = .ok (.getfield 57, 3) := by decide +kernel
theorem dTC_rows_4 : decode cTC_rows 4 = .ok (.invokevirtual 116, 3) := by decide +kernel
theorem dTC_rows_7 : decode cTC_rows 7 = .ok (.ireturn, 1) := by decide +kernel
theorem dTC_row_0 : decode cTC_row 0 = .ok (.aload_n 0, 1) := by decide +kernel
theorem dTC_row_1 : decode cTC_row 1 = .ok (.getfield 57, 3) := by decide +kernel
theorem dTC_row_4 : decode cTC_row 4 = .ok (.iload_n 1, 1) := by decide +kernel
theorem dTC_row_5 : decode cTC_row 5 = .ok (.iload_n 2, 1) := by decide +kernel
theorem dTC_row_6 : decode cTC_row 6 = .ok (.invokevirtual 120, 3) := by decide +kernel
theorem dTC_row_9 : decode cTC_row 9 = .ok (.ireturn, 1) := by decide +kernel
theorem dTC_built_0 : decode cTC_built 0 = .ok (.aload_n 0, 1) := by decide +kernel
theorem dTC_built_1 : decode cTC_built 1 = .ok (.iload_n 1, 1) := by decide +kernel
theorem dTC_built_2 : decode cTC_built 2 = .ok (.invokevirtual 86, 3) := by decide +kernel
theorem dTC_built_5 : decode cTC_built 5 = .ok (.ifCond .eq 11, 3) := by decide +kernel
theorem dTC_built_8 : decode cTC_built 8 = .ok (.aload_n 0, 1) := by decide +kernel
theorem dTC_built_9 : decode cTC_built 9 = .ok (.iload_n 2, 1) := by decide +kernel
theorem dTC_built_10 : decode cTC_built 10 = .ok (.invokevirtual 104, 3) := by decide +kernel
theorem dTC_built_13 : decode cTC_built 13 = .ok (.ifCond .ne 5, 3) := by decide +kernel
theorem dTC_built_16 : decode cTC_built 16 = .ok (.iconst 0, 1) := by decide +kernel
theorem dTC_built_17 : decode cTC_built 17 = .ok (.ireturn, 1) := by decide +kernel
theorem dTC_built_18 : decode cTC_built 18 = .ok (.aload_n 0, 1) := by decide +kernel
theorem dTC_built_19 : decode cTC_built 19 = .ok (.invokevirtual 107, 3) := by decide +kernel
theorem dTC_built_22 : decode cTC_built 22 = .ok (.aload_n 0, 1) := by decide +kernel
theorem dTC_built_23 : decode cTC_built 23 = .ok (.getfield 67, 3) := by decide +kernel
theorem dTC_built_26 : decode cTC_built 26 = .ok (.iload_n 1, 1) := by decide +kernel
theorem dTC_built_27 : decode cTC_built 27 = .ok (.iaload, 1) := by decide +kernel
theorem dTC_built_28 : decode cTC_built 28 = .ok (.iload_n 2, 1) := by decide +kernel
theorem dTC_built_29 : decode cTC_built 29 = .ok (.invokestatic 93, 3) := by decide +kernel
theorem dTC_built_32 : decode cTC_built 32 = .ok (.ireturn, 1) := by decide +kernel
theorem dTC_ring_0 : decode cTC_ring 0 = .ok (.aload_n 0, 1) := by decide +kernel
theorem dTC_ring_1 : decode cTC_ring 1 = .ok (.invokevirtual 107, 3) := by decide +kernel
theorem dTC_ring_4 : decode cTC_ring 4 = .ok (.aload_n 0, 1) := by decide +kernel
theorem dTC_ring_5 : decode cTC_ring 5 = .ok (.invokevirtual 124, 3) := by decide +kernel
theorem dTC_ring_8 : decode cTC_ring 8 = .ok (.iconst 0, 1) := by decide +kernel
theorem dTC_ring_9 : decode cTC_ring 9 = .ok (.istore_n 2, 1) := by decide +kernel
theorem dTC_ring_10 : decode cTC_ring 10 = .ok (.iconst 0, 1) := by decide +kernel
theorem dTC_ring_11 : decode cTC_ring 11 = .ok (.istore_n 3, 1) := by decide +kernel
theorem dTC_ring_12 : decode cTC_ring 12 = .ok (.iload_n 3, 1) := by decide +kernel
theorem dTC_ring_13 : decode cTC_ring 13 = .ok (.aload_n 0, 1) := by decide +kernel
theorem dTC_ring_14 : decode cTC_ring 14 = .ok (.getfield 35, 3) := by decide +kernel
theorem dTC_ring_17 : decode cTC_ring 17 = .ok (.if_icmp .ge 32, 3) := by decide +kernel
theorem dTC_ring_20 : decode cTC_ring 20 = .ok (.aload_n 0, 1) := by decide +kernel
theorem dTC_ring_21 : decode cTC_ring 21 = .ok (.getfield 73, 3) := by decide +kernel
theorem dTC_ring_24 : decode cTC_ring 24 = .ok (.iload_n 3, 1) := by decide +kernel
theorem dTC_ring_25 : decode cTC_ring 25 = .ok (.iaload, 1) := by decide +kernel
theorem dTC_ring_26 : decode cTC_ring 26 = .ok (.iload_n 3, 1) := by decide +kernel
theorem dTC_ring_27 : decode cTC_ring 27 = .ok (.invokestatic 93, 3) := by decide +kernel
theorem dTC_ring_30 : decode cTC_ring 30 = .ok (.ifCond .eq 13, 3) := by decide +kernel
theorem dTC_ring_33 : decode cTC_ring 33 = .ok (.iload_n 2, 1) := by decide +kernel
theorem dTC_ring_34 : decode cTC_ring 34 = .ok (.iload_n 1, 1) := by decide +kernel
theorem dTC_ring_35 : decode cTC_ring 35 = .ok (.if_icmp .ne 5, 3) := by decide +kernel
theorem dTC_ring_38 : decode cTC_ring 38 = .ok (.iload_n 3, 1) := by decide +kernel
theorem dTC_ring_39 : decode cTC_ring 39 = .ok (.ireturn, 1) := by decide +kernel
theorem dTC_ring_40 : decode cTC_ring 40 = .ok (.iinc 2 1, 3) := by decide +kernel
theorem dTC_ring_43 : decode cTC_ring 43 = .ok (.iinc 3 1, 3) := by decide +kernel
theorem dTC_ring_46 : decode cTC_ring 46 = .ok (.goto (-34), 3) := by decide +kernel
theorem dTC_ring_49 : decode cTC_ring 49 = .ok (.iconst (-1), 1) := by decide +kernel
theorem dTC_ring_50 : decode cTC_ring 50 = .ok (.ireturn, 1) := by decide +kernel
theorem dTC_isPlatform_0 : decode cTC_isPlatform 0 = .ok (.iload_n 1, 1) := by decide +kernel
theorem dTC_isPlatform_1 : decode cTC_isPlatform 1 = .ok (.ifCond .lt 15, 3) := by decide +kernel
theorem dTC_isPlatform_4 : decode cTC_isPlatform 4 = .ok (.iload_n 1, 1) := by decide +kernel
theorem dTC_isPlatform_5 : decode cTC_isPlatform 5 = .ok (.aload_n 0, 1) := by decide +kernel
theorem dTC_isPlatform_6 : decode cTC_isPlatform 6 = .ok (.getfield 13, 3) := by decide +kernel
theorem dTC_isPlatform_9 : decode cTC_isPlatform 9 = .ok (.if_icmp .ge 7, 3) := by decide +kernel
theorem dTC_isPlatform_12 : decode cTC_isPlatform 12 = .ok (.iconst 1, 1) := by decide +kernel
theorem dTC_isPlatform_13 : decode cTC_isPlatform 13 = .ok (.goto 4, 3) := by decide +kernel
theorem dTC_isPlatform_16 : decode cTC_isPlatform 16 = .ok (.iconst 0, 1) := by decide +kernel
theorem dTC_isPlatform_17 : decode cTC_isPlatform 17 = .ok (.ireturn, 1) := by decide +kernel
theorem dTC_isTool_0 : decode cTC_isTool 0 = .ok (.iload_n 1, 1) := by decide +kernel
theorem dTC_isTool_1 : decode cTC_isTool 1 = .ok (.ifCond .lt 15, 3) := by decide +kernel
theorem dTC_isTool_4 : decode cTC_isTool 4 = .ok (.iload_n 1, 1) := by decide +kernel
theorem dTC_isTool_5 : decode cTC_isTool 5 = .ok (.aload_n 0, 1) := by decide +kernel
theorem dTC_isTool_6 : decode cTC_isTool 6 = .ok (.getfield 35, 3) := by decide +kernel
theorem dTC_isTool_9 : decode cTC_isTool 9 = .ok (.if_icmp .ge 7, 3) := by decide +kernel
theorem dTC_isTool_12 : decode cTC_isTool 12 = .ok (.iconst 1, 1) := by decide +kernel
theorem dTC_isTool_13 : decode cTC_isTool 13 = .ok (.goto 4, 3) := by decide +kernel
theorem dTC_isTool_16 : decode cTC_isTool 16 = .ok (.iconst 0, 1) := by decide +kernel
theorem dTC_isTool_17 : decode cTC_isTool 17 = .ok (.ireturn, 1) := by decide +kernel
theorem dTC_isKind_0 : decode cTC_isKind 0 = .ok (.iload_n 0, 1) := by decide +kernel
theorem dTC_isKind_1 : decode cTC_isKind 1 = .ok (.ifCond .lt 13, 3) := by decide +kernel
theorem dTC_isKind_4 : decode cTC_isKind 4 = .ok (.iload_n 0, 1) := by decide +kernel
theorem dTC_isKind_5 : decode cTC_isKind 5 = .ok (.bipush 8, 2) := by decide +kernel
theorem dTC_isKind_7 : decode cTC_isKind 7 = .ok (.if_icmp .ge 7, 3) := by decide +kernel
theorem dTC_isKind_10 : decode cTC_isKind 10 = .ok (.iconst 1, 1) := by decide +kernel
theorem dTC_isKind_11 : decode cTC_isKind 11 = .ok (.goto 4, 3) := by decide +kernel
theorem dTC_isKind_14 : decode cTC_isKind 14 = .ok (.iconst 0, 1) := by decide +kernel
theorem dTC_isKind_15 : decode cTC_isKind 15 = .ok (.ireturn, 1) := by decide +kernel
theorem dTC_hasBit_0 : decode cTC_hasBit 0 = .ok (.iload_n 0, 1) := by decide +kernel
theorem dTC_hasBit_1 : decode cTC_hasBit 1 = .ok (.iload_n 1, 1) := by decide +kernel
theorem dTC_hasBit_2 : decode cTC_hasBit 2 = .ok (.iushr, 1) := by decide +kernel
theorem dTC_hasBit_3 : decode cTC_hasBit 3 = .ok (.iconst 1, 1) := by decide +kernel
theorem dTC_hasBit_4 : decode cTC_hasBit 4 = .ok (.iand, 1) := by decide +kernel
theorem dTC_hasBit_5 : decode cTC_hasBit 5 = .ok (.ifCond .eq 7, 3) := by decide +kernel
theorem dTC_hasBit_8 : decode cTC_hasBit 8 = .ok (.iconst 1, 1) := by decide +kernel
theorem dTC_hasBit_9 : decode cTC_hasBit 9 = .ok (.goto 4, 3) := by decide +kernel
theorem dTC_hasBit_12 : decode cTC_hasBit 12 = .ok (.iconst 0, 1) := by decide +kernel
theorem dTC_hasBit_13 : decode cTC_hasBit 13 = .ok (.ireturn, 1) := by decide +kernel
theorem dTC_lowestBit_0 : decode cTC_lowestBit 0 = .ok (.iconst 0, 1) := by decide +kernel
theorem dTC_lowestBit_1 : decode cTC_lowestBit 1 = .ok (.istore_n 1, 1) := by decide +kernel
theorem dTC_lowestBit_2 : decode cTC_lowestBit 2 = .ok (.iload_n 1, 1) := by decide +kernel
theorem dTC_lowestBit_3 : decode cTC_lowestBit 3 = .ok (.bipush 32, 2) := by decide +kernel
theorem dTC_lowestBit_5 : decode cTC_lowestBit 5 = .ok (.if_icmp .ge 19, 3) := by decide +kernel
theorem dTC_lowestBit_8 : decode cTC_lowestBit 8 = .ok (.iload_n 0, 1) := by decide +kernel
theorem dTC_lowestBit_9 : decode cTC_lowestBit 9 = .ok (.iload_n 1, 1) := by decide +kernel
theorem dTC_lowestBit_10 : decode cTC_lowestBit 10 = .ok (.invokestatic 93, 3) := by decide +kernel
theorem dTC_lowestBit_13 : decode cTC_lowestBit 13 = .ok (.ifCond .eq 5, 3) := by decide +kernel
theorem dTC_lowestBit_16 : decode cTC_lowestBit 16 = .ok (.iload_n 1, 1) := by decide +kernel
theorem dTC_lowestBit_17 : decode cTC_lowestBit 17 = .ok (.ireturn, 1) := by decide +kernel
theorem dTC_lowestBit_18 : decode cTC_lowestBit 18 = .ok (.iinc 1 1, 3) := by decide +kernel
theorem dTC_lowestBit_21 : decode cTC_lowestBit 21 = .ok (.goto (-19), 3) := by decide +kernel
theorem dTC_lowestBit_24 : decode cTC_lowestBit 24 = .ok (.iconst (-1), 1) := by decide +kernel
theorem dTC_lowestBit_25 : decode cTC_lowestBit 25 = .ok (.ireturn, 1) := by decide +kernel
theorem dTC_placeOf_0 : decode cTC_placeOf 0 = .ok (.iconst 0, 1) := by decide +kernel
theorem dTC_placeOf_1 : decode cTC_placeOf 1 = .ok (.istore_n 2, 1) := by decide +kernel
theorem dTC_placeOf_2 : decode cTC_placeOf 2 = .ok (.iload_n 2, 1) := by decide +kernel
theorem dTC_placeOf_3 : decode cTC_placeOf 3 = .ok (.aload_n 0, 1) := by decide +kernel
theorem dTC_placeOf_4 : decode cTC_placeOf 4 = .ok (.getfield 35, 3) := by decide +kernel
theorem dTC_placeOf_7 : decode cTC_placeOf 7 = .ok (.iconst 1, 1) := by decide +kernel
theorem dTC_placeOf_8 : decode cTC_placeOf 8 = .ok (.isub, 1) := by decide +kernel
theorem dTC_placeOf_9 : decode cTC_placeOf 9 = .ok (.if_icmp .ge 19, 3) := by decide +kernel
theorem dTC_placeOf_12 : decode cTC_placeOf 12 = .ok (.aload_n 0, 1) := by decide +kernel
theorem dTC_placeOf_13 : decode cTC_placeOf 13 = .ok (.getfield 32, 3) := by decide +kernel
theorem dTC_placeOf_16 : decode cTC_placeOf 16 = .ok (.iload_n 2, 1) := by decide +kernel
theorem dTC_placeOf_17 : decode cTC_placeOf 17 = .ok (.iaload, 1) := by decide +kernel
theorem dTC_placeOf_18 : decode cTC_placeOf 18 = .ok (.iload_n 1, 1) := by decide +kernel
theorem dTC_placeOf_19 : decode cTC_placeOf 19 = .ok (.if_icmp .eq 9, 3) := by decide +kernel
theorem dTC_placeOf_22 : decode cTC_placeOf 22 = .ok (.iinc 2 1, 3) := by decide +kernel
theorem dTC_placeOf_25 : decode cTC_placeOf 25 = .ok (.goto (-23), 3) := by decide +kernel
theorem dTC_placeOf_28 : decode cTC_placeOf 28 = .ok (.iload_n 2, 1) := by decide +kernel
theorem dTC_placeOf_29 : decode cTC_placeOf 29 = .ok (.ireturn, 1) := by decide +kernel
theorem dTC_takeTools_0 : decode cTC_takeTools 0 = .ok (.aload_n 0, 1) := by decide +kernel
theorem dTC_takeTools_1 : decode cTC_takeTools 1 = .ok (.getfield 51, 3) := by decide +kernel
theorem dTC_takeTools_4 : decode cTC_takeTools 4 = .ok (.iconst (-1), 1) := by decide +kernel
theorem dTC_takeTools_5 : decode cTC_takeTools 5 = .ok (.invokestatic 76, 3) := by decide +kernel
theorem dTC_takeTools_8 : decode cTC_takeTools 8 = .ok (.iconst 0, 1) := by decide +kernel
theorem dTC_takeTools_9 : decode cTC_takeTools 9 = .ok (.istore_n 3, 1) := by decide +kernel
theorem dTC_takeTools_10 : decode cTC_takeTools 10 = .ok (.iload_n 3, 1) := by decide +kernel
theorem dTC_takeTools_11 : decode cTC_takeTools 11 = .ok (.aload_n 0, 1) := by decide +kernel
theorem dTC_takeTools_12 : decode cTC_takeTools 12 = .ok (.getfield 44, 3) := by decide +kernel
theorem dTC_takeTools_15 : decode cTC_takeTools 15 = .ok (.invokevirtual 127, 3) := by decide +kernel
theorem dTC_takeTools_18 : decode cTC_takeTools 18 = .ok (.if_icmp .ge 59, 3) := by decide +kernel
theorem dTC_takeTools_21 : decode cTC_takeTools 21 = .ok (.aload_n 0, 1) := by decide +kernel
theorem dTC_takeTools_22 : decode cTC_takeTools 22 = .ok (.getfield 44, 3) := by decide +kernel
theorem dTC_takeTools_25 : decode cTC_takeTools 25 = .ok (.iload_n 3, 1) := by decide +kernel
theorem dTC_takeTools_26 : decode cTC_takeTools 26 = .ok (.invokevirtual 128, 3) := by decide +kernel
theorem dTC_takeTools_29 : decode cTC_takeTools 29 = .ok (.istore 4, 2) := by decide +kernel
theorem dTC_takeTools_31 : decode cTC_takeTools 31 = .ok (.aload_n 0, 1) := by decide +kernel
theorem dTC_takeTools_32 : decode cTC_takeTools 32 = .ok (.getfield 51, 3) := by decide +kernel
theorem dTC_takeTools_35 : decode cTC_takeTools 35 = .ok (.iload 4, 2) := by decide +kernel
theorem dTC_takeTools_37 : decode cTC_takeTools 37 = .ok (.aload_n 0, 1) := by decide +kernel
theorem dTC_takeTools_38 : decode cTC_takeTools 38 = .ok (.iload 4, 2) := by decide +kernel
theorem dTC_takeTools_40 : decode cTC_takeTools 40 = .ok (.iload_n 1, 1) := by decide +kernel
theorem dTC_takeTools_41 : decode cTC_takeTools 41 = .ok (.iload_n 2, 1) := by decide +kernel
theorem dTC_takeTools_42 : decode cTC_takeTools 42 = .ok (.invokevirtual 131, 3) := by decide +kernel
theorem dTC_takeTools_45 : decode cTC_takeTools 45 = .ok (.iastore, 1) := by decide +kernel
theorem dTC_takeTools_46 : decode cTC_takeTools 46 = .ok (.aload_n 0, 1) := by decide +kernel
theorem dTC_takeTools_47 : decode cTC_takeTools 47 = .ok (.getfield 51, 3) := by decide +kernel
theorem dTC_takeTools_50 : decode cTC_takeTools 50 = .ok (.iload 4, 2) := by decide +kernel
theorem dTC_takeTools_52 : decode cTC_takeTools 52 = .ok (.iaload, 1) := by decide +kernel
theorem dTC_takeTools_53 : decode cTC_takeTools 53 = .ok (.iconst (-1), 1) := by decide +kernel
theorem dTC_takeTools_54 : decode cTC_takeTools 54 = .ok (.if_icmp .ne 17, 3) := by decide +kernel
theorem dTC_takeTools_57 : decode cTC_takeTools 57 = .ok (.aload_n 0, 1) := by decide +kernel
theorem dTC_takeTools_58 : decode cTC_takeTools 58 = .ok (.getfield 44, 3) := by decide +kernel
theorem dTC_takeTools_61 : decode cTC_takeTools 61 = .ok (.iload 4, 2) := by decide +kernel
theorem dTC_takeTools_63 : decode cTC_takeTools 63 = .ok (.invokevirtual 135, 3) := by decide +kernel
theorem dTC_takeTools_66 : decode cTC_takeTools 66 = .ok (.ifCond .eq 5, 3) := by decide +kernel
theorem dTC_takeTools_69 : decode cTC_takeTools 69 = .ok (.iconst 0, 1) := by decide +kernel
theorem dTC_takeTools_70 : decode cTC_takeTools 70 = .ok (.ireturn, 1) := by decide +kernel
theorem dTC_takeTools_71 : decode cTC_takeTools 71 = .ok (.iinc 3 1, 3) := by decide +kernel
theorem dTC_takeTools_74 : decode cTC_takeTools 74 = .ok (.goto (-64), 3) := by decide +kernel
theorem dTC_takeTools_77 : decode cTC_takeTools 77 = .ok (.iconst 1, 1) := by decide +kernel
theorem dTC_takeTools_78 : decode cTC_takeTools 78 = .ok (.ireturn, 1) := by decide +kernel
theorem dTC_firstGood_0 : decode cTC_firstGood 0 = .ok (.iconst 0, 1) := by decide +kernel
theorem dTC_firstGood_1 : decode cTC_firstGood 1 = .ok (.istore 4, 2) := by decide +kernel
theorem dTC_firstGood_3 : decode cTC_firstGood 3 = .ok (.iload 4, 2) := by decide +kernel
theorem dTC_firstGood_5 : decode cTC_firstGood 5 = .ok (.aload_n 0, 1) := by decide +kernel
theorem dTC_firstGood_6 : decode cTC_firstGood 6 = .ok (.getfield 35, 3) := by decide +kernel
theorem dTC_firstGood_9 : decode cTC_firstGood 9 = .ok (.if_icmp .ge 69, 3) := by decide +kernel
theorem dTC_firstGood_12 : decode cTC_firstGood 12 = .ok (.aload_n 0, 1) := by decide +kernel
theorem dTC_firstGood_13 : decode cTC_firstGood 13 = .ok (.getfield 32, 3) := by decide +kernel
theorem dTC_firstGood_16 : decode cTC_firstGood 16 = .ok (.iload 4, 2) := by decide +kernel
theorem dTC_firstGood_18 : decode cTC_firstGood 18 = .ok (.iaload, 1) := by decide +kernel
theorem dTC_firstGood_19 : decode cTC_firstGood 19 = .ok (.istore 5, 2) := by decide +kernel
theorem dTC_firstGood_21 : decode cTC_firstGood 21 = .ok (.aload_n 0, 1) := by decide +kernel
theorem dTC_firstGood_22 : decode cTC_firstGood 22 = .ok (.getfield 17, 3) := by decide +kernel
theorem dTC_firstGood_25 : decode cTC_firstGood 25 = .ok (.iload 5, 2) := by decide +kernel
theorem dTC_firstGood_27 : decode cTC_firstGood 27 = .ok (.iaload, 1) := by decide +kernel
theorem dTC_firstGood_28 : decode cTC_firstGood 28 = .ok (.iload_n 1, 1) := by decide +kernel
theorem dTC_firstGood_29 : decode cTC_firstGood 29 = .ok (.if_icmp .ne 43, 3) := by decide +kernel
theorem dTC_firstGood_32 : decode cTC_firstGood 32 = .ok (.aload_n 0, 1) := by decide +kernel
theorem dTC_firstGood_33 : decode cTC_firstGood 33 = .ok (.iload 5, 2) := by decide +kernel
theorem dTC_firstGood_35 : decode cTC_firstGood 35 = .ok (.iload_n 2, 1) := by decide +kernel
theorem dTC_firstGood_36 : decode cTC_firstGood 36 = .ok (.iload_n 3, 1) := by decide +kernel
theorem dTC_firstGood_37 : decode cTC_firstGood 37 = .ok (.invokevirtual 138, 3) := by decide +kernel
theorem dTC_firstGood_40 : decode cTC_firstGood 40 = .ok (.istore 6, 2) := by decide +kernel
theorem dTC_firstGood_42 : decode cTC_firstGood 42 = .ok (.aload_n 0, 1) := by decide +kernel
theorem dTC_firstGood_43 : decode cTC_firstGood 43 = .ok (.getfield 57, 3) := by decide +kernel
theorem dTC_firstGood_46 : decode cTC_firstGood 46 = .ok (.iload_n 2, 1) := by decide +kernel
theorem dTC_firstGood_47 : decode cTC_firstGood 47 = .ok (.iload 5, 2) := by decide +kernel
theorem dTC_firstGood_49 : decode cTC_firstGood 49 = .ok (.iload 6, 2) := by decide +kernel
theorem dTC_firstGood_51 : decode cTC_firstGood 51 = .ok (.aload_n 0, 1) := by decide +kernel
theorem dTC_firstGood_52 : decode cTC_firstGood 52 = .ok (.iload 6, 2) := by decide +kernel
theorem dTC_firstGood_54 : decode cTC_firstGood 54 = .ok (.iload 5, 2) := by decide +kernel
theorem dTC_firstGood_56 : decode cTC_firstGood 56 = .ok (.iload_n 2, 1) := by decide +kernel
theorem dTC_firstGood_57 : decode cTC_firstGood 57 = .ok (.iload_n 3, 1) := by decide +kernel
theorem dTC_firstGood_58 : decode cTC_firstGood 58 = .ok (.invokevirtual 141, 3) := by decide +kernel
theorem dTC_firstGood_61 : decode cTC_firstGood 61 = .ok (.invokevirtual 145, 3) := by decide +kernel
theorem dTC_firstGood_64 : decode cTC_firstGood 64 = .ok (.iload 6, 2) := by decide +kernel
theorem dTC_firstGood_66 : decode cTC_firstGood 66 = .ok (.ifCond .ne 6, 3) := by decide +kernel
theorem dTC_firstGood_69 : decode cTC_firstGood 69 = .ok (.iload 5, 2) := by decide +kernel
theorem dTC_firstGood_71 : decode cTC_firstGood 71 = .ok (.ireturn, 1) := by decide +kernel
theorem dTC_firstGood_72 : decode cTC_firstGood 72 = .ok (.iinc 4 1, 3) := by decide +kernel
theorem dTC_firstGood_75 : decode cTC_firstGood 75 = .ok (.goto (-72), 3) := by decide +kernel
theorem dTC_firstGood_78 : decode cTC_firstGood 78 = .ok (.iconst (-1), 1) := by decide +kernel
theorem dTC_firstGood_79 : decode cTC_firstGood 79 = .ok (.ireturn, 1) := by decide +kernel
theorem dTC_whyNot_0 : decode cTC_whyNot 0 = .ok (.aload_n 0, 1) := by decide +kernel
theorem dTC_whyNot_1 : decode cTC_whyNot 1 = .ok (.getfield 17, 3) := by decide +kernel
theorem dTC_whyNot_4 : decode cTC_whyNot 4 = .ok (.iload_n 1, 1) := by decide +kernel
theorem dTC_whyNot_5 : decode cTC_whyNot 5 = .ok (.iaload, 1) := by decide +kernel
theorem dTC_whyNot_6 : decode cTC_whyNot 6 = .ok (.istore 4, 2) := by decide +kernel
theorem dTC_whyNot_8 : decode cTC_whyNot 8 = .ok (.aload_n 0, 1) := by decide +kernel
theorem dTC_whyNot_9 : decode cTC_whyNot 9 = .ok (.getfield 48, 3) := by decide +kernel
theorem dTC_whyNot_12 : decode cTC_whyNot 12 = .ok (.iload 4, 2) := by decide +kernel
theorem dTC_whyNot_14 : decode cTC_whyNot 14 = .ok (.iaload, 1) := by decide +kernel
theorem dTC_whyNot_15 : decode cTC_whyNot 15 = .ok (.iconst (-1), 1) := by decide +kernel
theorem dTC_whyNot_16 : decode cTC_whyNot 16 = .ok (.if_icmp .eq 16, 3) := by decide +kernel
theorem dTC_whyNot_19 : decode cTC_whyNot 19 = .ok (.aload_n 0, 1) := by decide +kernel
theorem dTC_whyNot_20 : decode cTC_whyNot 20 = .ok (.getfield 48, 3) := by decide +kernel
theorem dTC_whyNot_23 : decode cTC_whyNot 23 = .ok (.iload 4, 2) := by decide +kernel
theorem dTC_whyNot_25 : decode cTC_whyNot 25 = .ok (.iaload, 1) := by decide +kernel
theorem dTC_whyNot_26 : decode cTC_whyNot 26 = .ok (.iload_n 1, 1) := by decide +kernel
theorem dTC_whyNot_27 : decode cTC_whyNot 27 = .ok (.if_icmp .eq 5, 3) := by decide +kernel
theorem dTC_whyNot_30 : decode cTC_whyNot 30 = .ok (.iconst 1, 1) := by decide +kernel
theorem dTC_whyNot_31 : decode cTC_whyNot 31 = .ok (.ireturn, 1) := by decide +kernel
theorem dTC_whyNot_32 : decode cTC_whyNot 32 = .ok (.aload_n 0, 1) := by decide +kernel
theorem dTC_whyNot_33 : decode cTC_whyNot 33 = .ok (.getfield 26, 3) := by decide +kernel
theorem dTC_whyNot_36 : decode cTC_whyNot 36 = .ok (.iload_n 1, 1) := by decide +kernel
theorem dTC_whyNot_37 : decode cTC_whyNot 37 = .ok (.iaload, 1) := by decide +kernel
theorem dTC_whyNot_38 : decode cTC_whyNot 38 = .ok (.aload_n 0, 1) := by decide +kernel
theorem dTC_whyNot_39 : decode cTC_whyNot 39 = .ok (.getfield 44, 3) := by decide +kernel
theorem dTC_whyNot_42 : decode cTC_whyNot 42 = .ok (.iload 4, 2) := by decide +kernel
theorem dTC_whyNot_44 : decode cTC_whyNot 44 = .ok (.invokevirtual 149, 3) := by decide +kernel
theorem dTC_whyNot_47 : decode cTC_whyNot 47 = .ok (.if_icmp .ge 5, 3) := by decide +kernel
theorem dTC_whyNot_50 : decode cTC_whyNot 50 = .ok (.iconst 2, 1) := by decide +kernel
theorem dTC_whyNot_51 : decode cTC_whyNot 51 = .ok (.ireturn, 1) := by decide +kernel
theorem dTC_whyNot_52 : decode cTC_whyNot 52 = .ok (.aload_n 0, 1) := by decide +kernel
theorem dTC_whyNot_53 : decode cTC_whyNot 53 = .ok (.getfield 61, 3) := by decide +kernel
theorem dTC_whyNot_56 : decode cTC_whyNot 56 = .ok (.iload_n 1, 1) := by decide +kernel
theorem dTC_whyNot_57 : decode cTC_whyNot 57 = .ok (.iaload, 1) := by decide +kernel
theorem dTC_whyNot_58 : decode cTC_whyNot 58 = .ok (.iload_n 2, 1) := by decide +kernel
theorem dTC_whyNot_59 : decode cTC_whyNot 59 = .ok (.invokestatic 93, 3) := by decide +kernel
theorem dTC_whyNot_62 : decode cTC_whyNot 62 = .ok (.ifCond .ne 5, 3) := by decide +kernel
theorem dTC_whyNot_65 : decode cTC_whyNot 65 = .ok (.iconst 3, 1) := by decide +kernel
theorem dTC_whyNot_66 : decode cTC_whyNot 66 = .ok (.ireturn, 1) := by decide +kernel
theorem dTC_whyNot_67 : decode cTC_whyNot 67 = .ok (.aload_n 0, 1) := by decide +kernel
theorem dTC_whyNot_68 : decode cTC_whyNot 68 = .ok (.getfield 64, 3) := by decide +kernel
theorem dTC_whyNot_71 : decode cTC_whyNot 71 = .ok (.iload_n 1, 1) := by decide +kernel
theorem dTC_whyNot_72 : decode cTC_whyNot 72 = .ok (.iaload, 1) := by decide +kernel
theorem dTC_whyNot_73 : decode cTC_whyNot 73 = .ok (.iload_n 3, 1) := by decide +kernel
theorem dTC_whyNot_74 : decode cTC_whyNot 74 = .ok (.invokestatic 93, 3) := by decide +kernel
theorem dTC_whyNot_77 : decode cTC_whyNot 77 = .ok (.ifCond .ne 5, 3) := by decide +kernel
theorem dTC_whyNot_80 : decode cTC_whyNot 80 = .ok (.iconst 4, 1) := by decide +kernel
theorem dTC_whyNot_81 : decode cTC_whyNot 81 = .ok (.ireturn, 1) := by decide +kernel
theorem dTC_whyNot_82 : decode cTC_whyNot 82 = .ok (.aload_n 0, 1) := by decide +kernel
theorem dTC_whyNot_83 : decode cTC_whyNot 83 = .ok (.getfield 67, 3) := by decide +kernel
theorem dTC_whyNot_86 : decode cTC_whyNot 86 = .ok (.iload_n 1, 1) := by decide +kernel
theorem dTC_whyNot_87 : decode cTC_whyNot 87 = .ok (.iaload, 1) := by decide +kernel
theorem dTC_whyNot_88 : decode cTC_whyNot 88 = .ok (.iload_n 2, 1) := by decide +kernel
theorem dTC_whyNot_89 : decode cTC_whyNot 89 = .ok (.invokestatic 93, 3) := by decide +kernel
theorem dTC_whyNot_92 : decode cTC_whyNot 92 = .ok (.ifCond .eq 7, 3) := by decide +kernel
theorem dTC_whyNot_95 : decode cTC_whyNot 95 = .ok (.iconst 0, 1) := by decide +kernel
theorem dTC_whyNot_96 : decode cTC_whyNot 96 = .ok (.goto 4, 3) := by decide +kernel
theorem dTC_whyNot_99 : decode cTC_whyNot 99 = .ok (.iconst 5, 1) := by decide +kernel
theorem dTC_whyNot_100 : decode cTC_whyNot 100 = .ok (.ireturn, 1) := by decide +kernel
theorem dTC_lackOf_0 : decode cTC_lackOf 0 = .ok (.iload_n 1, 1) := by decide +kernel
theorem dTC_lackOf_1 : decode cTC_lackOf 1 = .ok (.tableswitch 73 3 5 #[27, 46, 66], 27) := by decide +kernel
theorem dTC_lackOf_28 : decode cTC_lackOf 28 = .ok (.aload_n 0, 1) := by decide +kernel
theorem dTC_lackOf_29 : decode cTC_lackOf 29 = .ok (.getfield 20, 3) := by decide +kernel
theorem dTC_lackOf_32 : decode cTC_lackOf 32 = .ok (.iload_n 2, 1) := by decide +kernel
theorem dTC_lackOf_33 : decode cTC_lackOf 33 = .ok (.iaload, 1) := by decide +kernel
theorem dTC_lackOf_34 : decode cTC_lackOf 34 = .ok (.aload_n 0, 1) := by decide +kernel
theorem dTC_lackOf_35 : decode cTC_lackOf 35 = .ok (.getfield 9, 3) := by decide +kernel
theorem dTC_lackOf_38 : decode cTC_lackOf 38 = .ok (.iload_n 3, 1) := by decide +kernel
theorem dTC_lackOf_39 : decode cTC_lackOf 39 = .ok (.iaload, 1) := by decide +kernel
theorem dTC_lackOf_40 : decode cTC_lackOf 40 = .ok (.iconst (-1), 1) := by decide +kernel
theorem dTC_lackOf_41 : decode cTC_lackOf 41 = .ok (.ixor, 1) := by decide +kernel
theorem dTC_lackOf_42 : decode cTC_lackOf 42 = .ok (.iand, 1) := by decide +kernel
theorem dTC_lackOf_43 : decode cTC_lackOf 43 = .ok (.invokestatic 152, 3) := by decide +kernel
theorem dTC_lackOf_46 : decode cTC_lackOf 46 = .ok (.ireturn, 1) := by decide +kernel
theorem dTC_lackOf_47 : decode cTC_lackOf 47 = .ok (.aload_n 0, 1) := by decide +kernel
theorem dTC_lackOf_48 : decode cTC_lackOf 48 = .ok (.getfield 23, 3) := by decide +kernel
theorem dTC_lackOf_51 : decode cTC_lackOf 51 = .ok (.iload_n 2, 1) := by decide +kernel
theorem dTC_lackOf_52 : decode cTC_lackOf 52 = .ok (.iaload, 1) := by decide +kernel
theorem dTC_lackOf_53 : decode cTC_lackOf 53 = .ok (.aload_n 0, 1) := by decide +kernel
theorem dTC_lackOf_54 : decode cTC_lackOf 54 = .ok (.getfield 9, 3) := by decide +kernel
theorem dTC_lackOf_57 : decode cTC_lackOf 57 = .ok (.iload 4, 2) := by decide +kernel
theorem dTC_lackOf_59 : decode cTC_lackOf 59 = .ok (.iaload, 1) := by decide +kernel
theorem dTC_lackOf_60 : decode cTC_lackOf 60 = .ok (.iconst (-1), 1) := by decide +kernel
theorem dTC_lackOf_61 : decode cTC_lackOf 61 = .ok (.ixor, 1) := by decide +kernel
theorem dTC_lackOf_62 : decode cTC_lackOf 62 = .ok (.iand, 1) := by decide +kernel
theorem dTC_lackOf_63 : decode cTC_lackOf 63 = .ok (.invokestatic 152, 3) := by decide +kernel
theorem dTC_lackOf_66 : decode cTC_lackOf 66 = .ok (.ireturn, 1) := by decide +kernel
theorem dTC_lackOf_67 : decode cTC_lackOf 67 = .ok (.aload_n 0, 1) := by decide +kernel
theorem dTC_lackOf_68 : decode cTC_lackOf 68 = .ok (.iload_n 2, 1) := by decide +kernel
theorem dTC_lackOf_69 : decode cTC_lackOf 69 = .ok (.iload_n 3, 1) := by decide +kernel
theorem dTC_lackOf_70 : decode cTC_lackOf 70 = .ok (.invokevirtual 155, 3) := by decide +kernel
theorem dTC_lackOf_73 : decode cTC_lackOf 73 = .ok (.ireturn, 1) := by decide +kernel
theorem dTC_lackOf_74 : decode cTC_lackOf 74 = .ok (.iconst (-1), 1) := by decide +kernel
theorem dTC_lackOf_75 : decode cTC_lackOf 75 = .ok (.ireturn, 1) := by decide +kernel
theorem dTC_lowestUnsupplied_0 : decode cTC_lowestUnsupplied 0 = .ok (.iconst 0, 1) := by decide +kernel
theorem dTC_lowestUnsupplied_1 : decode cTC_lowestUnsupplied 1 = .ok (.istore_n 3, 1) := by decide +kernel
theorem dTC_lowestUnsupplied_2 : decode cTC_lowestUnsupplied 2 = .ok (.iload_n 3, 1) := by decide +kernel
theorem dTC_lowestUnsupplied_3 : decode cTC_lowestUnsupplied 3 = .ok (.bipush 8, 2) := by decide +kernel
theorem dTC_lowestUnsupplied_5 : decode cTC_lowestUnsupplied 5 = .ok (.if_icmp .ge 37, 3) := by decide +kernel
theorem dTC_lowestUnsupplied_8 : decode cTC_lowestUnsupplied 8 = .ok (.aload_n 0, 1) := by decide +kernel
theorem dTC_lowestUnsupplied_9 : decode cTC_lowestUnsupplied 9 = .ok (.getfield 29, 3) := by decide +kernel
theorem dTC_lowestUnsupplied_12 : decode cTC_lowestUnsupplied 12 = .ok (.iload_n 1, 1) := by decide +kernel
theorem dTC_lowestUnsupplied_13 : decode cTC_lowestUnsupplied 13 = .ok (.iaload, 1) := by decide +kernel
theorem dTC_lowestUnsupplied_14 : decode cTC_lowestUnsupplied 14 = .ok (.iload_n 3, 1) := by decide +kernel
theorem dTC_lowestUnsupplied_15 : decode cTC_lowestUnsupplied 15 = .ok (.invokestatic 93, 3) := by decide +kernel
theorem dTC_lowestUnsupplied_18 : decode cTC_lowestUnsupplied 18 = .ok (.ifCond .eq 18, 3) := by decide +kernel
theorem dTC_lowestUnsupplied_21 : decode cTC_lowestUnsupplied 21 = .ok (.aload_n 0, 1) := by decide +kernel
theorem dTC_lowestUnsupplied_22 : decode cTC_lowestUnsupplied 22 = .ok (.getfield 70, 3) := by decide +kernel
theorem dTC_lowestUnsupplied_25 : decode cTC_lowestUnsupplied 25 = .ok (.iload_n 3, 1) := by decide +kernel
theorem dTC_lowestUnsupplied_26 : decode cTC_lowestUnsupplied 26 = .ok (.iaload, 1) := by decide +kernel
theorem dTC_lowestUnsupplied_27 : decode cTC_lowestUnsupplied 27 = .ok (.iload_n 2, 1) := by decide +kernel
theorem dTC_lowestUnsupplied_28 : decode cTC_lowestUnsupplied 28 = .ok (.invokestatic 93, 3) := by decide +kernel
theorem dTC_lowestUnsupplied_31 : decode cTC_lowestUnsupplied 31 = .ok (.ifCond .ne 5, 3) := by decide +kernel
theorem dTC_lowestUnsupplied_34 : decode cTC_lowestUnsupplied 34 = .ok (.iload_n 3, 1) := by decide +kernel
theorem dTC_lowestUnsupplied_35 : decode cTC_lowestUnsupplied 35 = .ok (.ireturn, 1) := by decide +kernel
theorem dTC_lowestUnsupplied_36 : decode cTC_lowestUnsupplied 36 = .ok (.iinc 3 1, 3) := by decide +kernel
theorem dTC_lowestUnsupplied_39 : decode cTC_lowestUnsupplied 39 = .ok (.goto (-37), 3) := by decide +kernel
theorem dTC_lowestUnsupplied_42 : decode cTC_lowestUnsupplied 42 = .ok (.iconst (-1), 1) := by decide +kernel
theorem dTC_lowestUnsupplied_43 : decode cTC_lowestUnsupplied 43 = .ok (.ireturn, 1) := by decide +kernel
theorem dTC_platformsHaving_0 : decode cTC_platformsHaving 0 = .ok (.iconst 0, 1) := by decide +kernel
theorem dTC_platformsHaving_1 : decode cTC_platformsHaving 1 = .ok (.istore_n 2, 1) := by decide +kernel
theorem dTC_platformsHaving_2 : decode cTC_platformsHaving 2 = .ok (.iconst 0, 1) := by decide +kernel
theorem dTC_platformsHaving_3 : decode cTC_platformsHaving 3 = .ok (.istore_n 3, 1) := by decide +kernel
theorem dTC_platformsHaving_4 : decode cTC_platformsHaving 4 = .ok (.iload_n 3, 1) := by decide +kernel
theorem dTC_platformsHaving_5 : decode cTC_platformsHaving 5 = .ok (.aload_n 0, 1) := by decide +kernel
theorem dTC_platformsHaving_6 : decode cTC_platformsHaving 6 = .ok (.getfield 13, 3) := by decide +kernel
theorem dTC_platformsHaving_9 : decode cTC_platformsHaving 9 = .ok (.if_icmp .ge 28, 3) := by decide +kernel
theorem dTC_platformsHaving_12 : decode cTC_platformsHaving 12 = .ok (.iload_n 1, 1) := by decide +kernel
theorem dTC_platformsHaving_13 : decode cTC_platformsHaving 13 = .ok (.aload_n 0, 1) := by decide +kernel
theorem dTC_platformsHaving_14 : decode cTC_platformsHaving 14 = .ok (.getfield 9, 3) := by decide +kernel
theorem dTC_platformsHaving_17 : decode cTC_platformsHaving 17 = .ok (.iload_n 3, 1) := by decide +kernel
theorem dTC_platformsHaving_18 : decode cTC_platformsHaving 18 = .ok (.iaload, 1) := by decide +kernel
theorem dTC_platformsHaving_19 : decode cTC_platformsHaving 19 = .ok (.iconst (-1), 1) := by decide +kernel
theorem dTC_platformsHaving_20 : decode cTC_platformsHaving 20 = .ok (.ixor, 1) := by decide +kernel
theorem dTC_platformsHaving_21 : decode cTC_platformsHaving 21 = .ok (.iand, 1) := by decide +kernel
theorem dTC_platformsHaving_22 : decode cTC_platformsHaving 22 = .ok (.ifCond .ne 9, 3) := by decide +kernel
theorem dTC_platformsHaving_25 : decode cTC_platformsHaving 25 = .ok (.iload_n 2, 1) := by decide +kernel
theorem dTC_platformsHaving_26 : decode cTC_platformsHaving 26 = .ok (.iconst 1, 1) := by decide +kernel
theorem dTC_platformsHaving_27 : decode cTC_platformsHaving 27 = .ok (.iload_n 3, 1) := by decide +kernel
theorem dTC_platformsHaving_28 : decode cTC_platformsHaving 28 = .ok (.ishl, 1) := by decide +kernel
theorem dTC_platformsHaving_29 : decode cTC_platformsHaving 29 = .ok (.ior, 1) := by decide +kernel
theorem dTC_platformsHaving_30 : decode cTC_platformsHaving 30 = .ok (.istore_n 2, 1) := by decide +kernel
theorem dTC_platformsHaving_31 : decode cTC_platformsHaving 31 = .ok (.iinc 3 1, 3) := by decide +kernel
theorem dTC_platformsHaving_34 : decode cTC_platformsHaving 34 = .ok (.goto (-30), 3) := by decide +kernel
theorem dTC_platformsHaving_37 : decode cTC_platformsHaving 37 = .ok (.iload_n 2, 1) := by decide +kernel
theorem dTC_platformsHaving_38 : decode cTC_platformsHaving 38 = .ok (.ireturn, 1) := by decide +kernel
theorem dTC_settleBuilt_0 : decode cTC_settleBuilt 0 = .ok (.iconst 0, 1) := by decide +kernel
theorem dTC_settleBuilt_1 : decode cTC_settleBuilt 1 = .ok (.istore_n 1, 1) := by decide +kernel
theorem dTC_settleBuilt_2 : decode cTC_settleBuilt 2 = .ok (.iload_n 1, 1) := by decide +kernel
theorem dTC_settleBuilt_3 : decode cTC_settleBuilt 3 = .ok (.aload_n 0, 1) := by decide +kernel
theorem dTC_settleBuilt_4 : decode cTC_settleBuilt 4 = .ok (.getfield 35, 3) := by decide +kernel
theorem dTC_settleBuilt_7 : decode cTC_settleBuilt 7 = .ok (.if_icmp .ge 48, 3) := by decide +kernel
theorem dTC_settleBuilt_10 : decode cTC_settleBuilt 10 = .ok (.aload_n 0, 1) := by decide +kernel
theorem dTC_settleBuilt_11 : decode cTC_settleBuilt 11 = .ok (.getfield 61, 3) := by decide +kernel
theorem dTC_settleBuilt_14 : decode cTC_settleBuilt 14 = .ok (.iload_n 1, 1) := by decide +kernel
theorem dTC_settleBuilt_15 : decode cTC_settleBuilt 15 = .ok (.aload_n 0, 1) := by decide +kernel
theorem dTC_settleBuilt_16 : decode cTC_settleBuilt 16 = .ok (.aload_n 0, 1) := by decide +kernel
theorem dTC_settleBuilt_17 : decode cTC_settleBuilt 17 = .ok (.getfield 20, 3) := by decide +kernel
theorem dTC_settleBuilt_20 : decode cTC_settleBuilt 20 = .ok (.iload_n 1, 1) := by decide +kernel
theorem dTC_settleBuilt_21 : decode cTC_settleBuilt 21 = .ok (.iaload, 1) := by decide +kernel
theorem dTC_settleBuilt_22 : decode cTC_settleBuilt 22 = .ok (.invokevirtual 158, 3) := by decide +kernel
theorem dTC_settleBuilt_25 : decode cTC_settleBuilt 25 = .ok (.iastore, 1) := by decide +kernel
theorem dTC_settleBuilt_26 : decode cTC_settleBuilt 26 = .ok (.aload_n 0, 1) := by decide +kernel
theorem dTC_settleBuilt_27 : decode cTC_settleBuilt 27 = .ok (.getfield 64, 3) := by decide +kernel
theorem dTC_settleBuilt_30 : decode cTC_settleBuilt 30 = .ok (.iload_n 1, 1) := by decide +kernel
theorem dTC_settleBuilt_31 : decode cTC_settleBuilt 31 = .ok (.aload_n 0, 1) := by decide +kernel
theorem dTC_settleBuilt_32 : decode cTC_settleBuilt 32 = .ok (.aload_n 0, 1) := by decide +kernel
theorem dTC_settleBuilt_33 : decode cTC_settleBuilt 33 = .ok (.getfield 23, 3) := by decide +kernel
theorem dTC_settleBuilt_36 : decode cTC_settleBuilt 36 = .ok (.iload_n 1, 1) := by decide +kernel
theorem dTC_settleBuilt_37 : decode cTC_settleBuilt 37 = .ok (.iaload, 1) := by decide +kernel
theorem dTC_settleBuilt_38 : decode cTC_settleBuilt 38 = .ok (.invokevirtual 158, 3) := by decide +kernel
theorem dTC_settleBuilt_41 : decode cTC_settleBuilt 41 = .ok (.iastore, 1) := by decide +kernel
theorem dTC_settleBuilt_42 : decode cTC_settleBuilt 42 = .ok (.aload_n 0, 1) := by decide +kernel
theorem dTC_settleBuilt_43 : decode cTC_settleBuilt 43 = .ok (.getfield 67, 3) := by decide +kernel
theorem dTC_settleBuilt_46 : decode cTC_settleBuilt 46 = .ok (.iload_n 1, 1) := by decide +kernel
theorem dTC_settleBuilt_47 : decode cTC_settleBuilt 47 = .ok (.iconst 0, 1) := by decide +kernel
theorem dTC_settleBuilt_48 : decode cTC_settleBuilt 48 = .ok (.iastore, 1) := by decide +kernel
theorem dTC_settleBuilt_49 : decode cTC_settleBuilt 49 = .ok (.iinc 1 1, 3) := by decide +kernel
theorem dTC_settleBuilt_52 : decode cTC_settleBuilt 52 = .ok (.goto (-50), 3) := by decide +kernel
theorem dTC_settleBuilt_55 : decode cTC_settleBuilt 55 = .ok (.aload_n 0, 1) := by decide +kernel
theorem dTC_settleBuilt_56 : decode cTC_settleBuilt 56 = .ok (.getfield 70, 3) := by decide +kernel
theorem dTC_settleBuilt_59 : decode cTC_settleBuilt 59 = .ok (.iconst 0, 1) := by decide +kernel
theorem dTC_settleBuilt_60 : decode cTC_settleBuilt 60 = .ok (.invokestatic 76, 3) := by decide +kernel
theorem dTC_settleBuilt_63 : decode cTC_settleBuilt 63 = .ok (.iconst 1, 1) := by decide +kernel
theorem dTC_settleBuilt_64 : decode cTC_settleBuilt 64 = .ok (.istore_n 1, 1) := by decide +kernel
theorem dTC_settleBuilt_65 : decode cTC_settleBuilt 65 = .ok (.iconst 0, 1) := by decide +kernel
theorem dTC_settleBuilt_66 : decode cTC_settleBuilt 66 = .ok (.istore_n 2, 1) := by decide +kernel
theorem dTC_settleBuilt_67 : decode cTC_settleBuilt 67 = .ok (.iload_n 2, 1) := by decide +kernel
theorem dTC_settleBuilt_68 : decode cTC_settleBuilt 68 = .ok (.aload_n 0, 1) := by decide +kernel
theorem dTC_settleBuilt_69 : decode cTC_settleBuilt 69 = .ok (.getfield 35, 3) := by decide +kernel
theorem dTC_settleBuilt_72 : decode cTC_settleBuilt 72 = .ok (.if_icmp .gt 18, 3) := by decide +kernel
theorem dTC_settleBuilt_75 : decode cTC_settleBuilt 75 = .ok (.iload_n 1, 1) := by decide +kernel
theorem dTC_settleBuilt_76 : decode cTC_settleBuilt 76 = .ok (.ifCond .eq 14, 3) := by decide +kernel
theorem dTC_settleBuilt_79 : decode cTC_settleBuilt 79 = .ok (.aload_n 0, 1) := by decide +kernel
theorem dTC_settleBuilt_80 : decode cTC_settleBuilt 80 = .ok (.invokevirtual 161, 3) := by decide +kernel
theorem dTC_settleBuilt_83 : decode cTC_settleBuilt 83 = .ok (.istore_n 1, 1) := by decide +kernel
theorem dTC_settleBuilt_84 : decode cTC_settleBuilt 84 = .ok (.iinc 2 1, 3) := by decide +kernel
theorem dTC_settleBuilt_87 : decode cTC_settleBuilt 87 = .ok (.goto (-20), 3) := by decide +kernel
theorem dTC_settleBuilt_90 : decode cTC_settleBuilt 90 = .ok (.return_, 1) := by decide +kernel
theorem dTC_growBuilt_0 : decode cTC_growBuilt 0 = .ok (.iconst 0, 1) := by decide +kernel
theorem dTC_growBuilt_1 : decode cTC_growBuilt 1 = .ok (.istore_n 1, 1) := by decide +kernel
theorem dTC_growBuilt_2 : decode cTC_growBuilt 2 = .ok (.iconst 0, 1) := by decide +kernel
theorem dTC_growBuilt_3 : decode cTC_growBuilt 3 = .ok (.istore_n 2, 1) := by decide +kernel
theorem dTC_growBuilt_4 : decode cTC_growBuilt 4 = .ok (.iload_n 2, 1) := by decide +kernel
theorem dTC_growBuilt_5 : decode cTC_growBuilt 5 = .ok (.aload_n 0, 1) := by decide +kernel
theorem dTC_growBuilt_6 : decode cTC_growBuilt 6 = .ok (.getfield 35, 3) := by decide +kernel
theorem dTC_growBuilt_9 : decode cTC_growBuilt 9 = .ok (.if_icmp .ge 54, 3) := by decide +kernel
theorem dTC_growBuilt_12 : decode cTC_growBuilt 12 = .ok (.aload_n 0, 1) := by decide +kernel
theorem dTC_growBuilt_13 : decode cTC_growBuilt 13 = .ok (.iload_n 2, 1) := by decide +kernel
theorem dTC_growBuilt_14 : decode cTC_growBuilt 14 = .ok (.invokevirtual 165, 3) := by decide +kernel
theorem dTC_growBuilt_17 : decode cTC_growBuilt 17 = .ok (.istore_n 3, 1) := by decide +kernel
theorem dTC_growBuilt_18 : decode cTC_growBuilt 18 = .ok (.iload_n 3, 1) := by decide +kernel
theorem dTC_growBuilt_19 : decode cTC_growBuilt 19 = .ok (.aload_n 0, 1) := by decide +kernel
theorem dTC_growBuilt_20 : decode cTC_growBuilt 20 = .ok (.getfield 67, 3) := by decide +kernel
theorem dTC_growBuilt_23 : decode cTC_growBuilt 23 = .ok (.iload_n 2, 1) := by decide +kernel
theorem dTC_growBuilt_24 : decode cTC_growBuilt 24 = .ok (.iaload, 1) := by decide +kernel
theorem dTC_growBuilt_25 : decode cTC_growBuilt 25 = .ok (.if_icmp .eq 32, 3) := by decide +kernel
theorem dTC_growBuilt_28 : decode cTC_growBuilt 28 = .ok (.aload_n 0, 1) := by decide +kernel
theorem dTC_growBuilt_29 : decode cTC_growBuilt 29 = .ok (.getfield 67, 3) := by decide +kernel
theorem dTC_growBuilt_32 : decode cTC_growBuilt 32 = .ok (.iload_n 2, 1) := by decide +kernel
theorem dTC_growBuilt_33 : decode cTC_growBuilt 33 = .ok (.iload_n 3, 1) := by decide +kernel
theorem dTC_growBuilt_34 : decode cTC_growBuilt 34 = .ok (.iastore, 1) := by decide +kernel
theorem dTC_growBuilt_35 : decode cTC_growBuilt 35 = .ok (.aload_n 0, 1) := by decide +kernel
theorem dTC_growBuilt_36 : decode cTC_growBuilt 36 = .ok (.getfield 70, 3) := by decide +kernel
theorem dTC_growBuilt_39 : decode cTC_growBuilt 39 = .ok (.aload_n 0, 1) := by decide +kernel
theorem dTC_growBuilt_40 : decode cTC_growBuilt 40 = .ok (.getfield 17, 3) := by decide +kernel
theorem dTC_growBuilt_43 : decode cTC_growBuilt 43 = .ok (.iload_n 2, 1) := by decide +kernel
theorem dTC_growBuilt_44 : decode cTC_growBuilt 44 = .ok (.iaload, 1) := by decide +kernel
theorem dTC_growBuilt_45 : decode cTC_growBuilt 45 = .ok (.dup2, 1) := by decide +kernel
theorem dTC_growBuilt_46 : decode cTC_growBuilt 46 = .ok (.iaload, 1) := by decide +kernel
theorem dTC_growBuilt_47 : decode cTC_growBuilt 47 = .ok (.aload_n 0, 1) := by decide +kernel
theorem dTC_growBuilt_48 : decode cTC_growBuilt 48 = .ok (.getfield 64, 3) := by decide +kernel
theorem dTC_growBuilt_51 : decode cTC_growBuilt 51 = .ok (.iload_n 2, 1) := by decide +kernel
theorem dTC_growBuilt_52 : decode cTC_growBuilt 52 = .ok (.iaload, 1) := by decide +kernel
theorem dTC_growBuilt_53 : decode cTC_growBuilt 53 = .ok (.ior, 1) := by decide +kernel
theorem dTC_growBuilt_54 : decode cTC_growBuilt 54 = .ok (.iastore, 1) := by decide +kernel
theorem dTC_growBuilt_55 : decode cTC_growBuilt 55 = .ok (.iconst 1, 1) := by decide +kernel
theorem dTC_growBuilt_56 : decode cTC_growBuilt 56 = .ok (.istore_n 1, 1) := by decide +kernel
theorem dTC_growBuilt_57 : decode cTC_growBuilt 57 = .ok (.iinc 2 1, 3) := by decide +kernel
theorem dTC_growBuilt_60 : decode cTC_growBuilt 60 = .ok (.goto (-56), 3) := by decide +kernel
theorem dTC_growBuilt_63 : decode cTC_growBuilt 63 = .ok (.iload_n 1, 1) := by decide +kernel
theorem dTC_growBuilt_64 : decode cTC_growBuilt 64 = .ok (.ireturn, 1) := by decide +kernel
theorem dTC_platformsWithSupplies_0 : decode cTC_platformsWithSupplies 0 = .ok (.aload_n 0, 1) := by decide +kernel
theorem dTC_platformsWithSupplies_1 : decode cTC_platformsWithSupplies 1 = .ok (.getfield 61, 3) := by decide +kernel
theorem dTC_platformsWithSupplies_4 : decode cTC_platformsWithSupplies 4 = .ok (.iload_n 1, 1) := by decide +kernel
theorem dTC_platformsWithSupplies_5 : decode cTC_platformsWithSupplies 5 = .ok (.iaload, 1) := by decide +kernel
theorem dTC_platformsWithSupplies_6 : decode cTC_platformsWithSupplies 6 = .ok (.istore_n 2, 1) := by decide +kernel
theorem dTC_platformsWithSupplies_7 : decode cTC_platformsWithSupplies 7 = .ok (.iconst 0, 1) := by decide +kernel
theorem dTC_platformsWithSupplies_8 : decode cTC_platformsWithSupplies 8 = .ok (.istore_n 3, 1) := by decide +kernel
theorem dTC_platformsWithSupplies_9 : decode cTC_platformsWithSupplies 9 = .ok (.iload_n 3, 1) := by decide +kernel
theorem dTC_platformsWithSupplies_10 : decode cTC_platformsWithSupplies 10 = .ok (.bipush 8, 2) := by decide +kernel
theorem dTC_platformsWithSupplies_12 : decode cTC_platformsWithSupplies 12 = .ok (.if_icmp .ge 31, 3) := by decide +kernel
theorem dTC_platformsWithSupplies_15 : decode cTC_platformsWithSupplies 15 = .ok (.aload_n 0, 1) := by decide +kernel
theorem dTC_platformsWithSupplies_16 : decode cTC_platformsWithSupplies 16 = .ok (.getfield 29, 3) := by decide +kernel
theorem dTC_platformsWithSupplies_19 : decode cTC_platformsWithSupplies 19 = .ok (.iload_n 1, 1) := by decide +kernel
theorem dTC_platformsWithSupplies_20 : decode cTC_platformsWithSupplies 20 = .ok (.iaload, 1) := by decide +kernel
theorem dTC_platformsWithSupplies_21 : decode cTC_platformsWithSupplies 21 = .ok (.iload_n 3, 1) := by decide +kernel
theorem dTC_platformsWithSupplies_22 : decode cTC_platformsWithSupplies 22 = .ok (.invokestatic 93, 3) := by decide +kernel
theorem dTC_platformsWithSupplies_25 : decode cTC_platformsWithSupplies 25 = .ok (.ifCond .eq 12, 3) := by decide +kernel
theorem dTC_platformsWithSupplies_28 : decode cTC_platformsWithSupplies 28 = .ok (.iload_n 2, 1) := by decide +kernel
theorem dTC_platformsWithSupplies_29 : decode cTC_platformsWithSupplies 29 = .ok (.aload_n 0, 1) := by decide +kernel
theorem dTC_platformsWithSupplies_30 : decode cTC_platformsWithSupplies 30 = .ok (.getfield 70, 3) := by decide +kernel
theorem dTC_platformsWithSupplies_33 : decode cTC_platformsWithSupplies 33 = .ok (.iload_n 3, 1) := by decide +kernel
theorem dTC_platformsWithSupplies_34 : decode cTC_platformsWithSupplies 34 = .ok (.iaload, 1) := by decide +kernel
theorem dTC_platformsWithSupplies_35 : decode cTC_platformsWithSupplies 35 = .ok (.iand, 1) := by decide +kernel
theorem dTC_platformsWithSupplies_36 : decode cTC_platformsWithSupplies 36 = .ok (.istore_n 2, 1) := by decide +kernel
theorem dTC_platformsWithSupplies_37 : decode cTC_platformsWithSupplies 37 = .ok (.iinc 3 1, 3) := by decide +kernel
theorem dTC_platformsWithSupplies_40 : decode cTC_platformsWithSupplies 40 = .ok (.goto (-31), 3) := by decide +kernel
theorem dTC_platformsWithSupplies_43 : decode cTC_platformsWithSupplies 43 = .ok (.iload_n 2, 1) := by decide +kernel
theorem dTC_platformsWithSupplies_44 : decode cTC_platformsWithSupplies 44 = .ok (.ireturn, 1) := by decide +kernel
theorem dTC_settleLeads_0 : decode cTC_settleLeads 0 = .ok (.iconst 0, 1) := by decide +kernel
theorem dTC_settleLeads_1 : decode cTC_settleLeads 1 = .ok (.istore_n 1, 1) := by decide +kernel
theorem dTC_settleLeads_2 : decode cTC_settleLeads 2 = .ok (.iload_n 1, 1) := by decide +kernel
theorem dTC_settleLeads_3 : decode cTC_settleLeads 3 = .ok (.aload_n 0, 1) := by decide +kernel
theorem dTC_settleLeads_4 : decode cTC_settleLeads 4 = .ok (.getfield 35, 3) := by decide +kernel
theorem dTC_settleLeads_7 : decode cTC_settleLeads 7 = .ok (.if_icmp .ge 20, 3) := by decide +kernel
theorem dTC_settleLeads_10 : decode cTC_settleLeads 10 = .ok (.aload_n 0, 1) := by decide +kernel
theorem dTC_settleLeads_11 : decode cTC_settleLeads 11 = .ok (.getfield 73, 3) := by decide +kernel
theorem dTC_settleLeads_14 : decode cTC_settleLeads 14 = .ok (.iload_n 1, 1) := by decide +kernel
theorem dTC_settleLeads_15 : decode cTC_settleLeads 15 = .ok (.aload_n 0, 1) := by decide +kernel
theorem dTC_settleLeads_16 : decode cTC_settleLeads 16 = .ok (.iload_n 1, 1) := by decide +kernel
theorem dTC_settleLeads_17 : decode cTC_settleLeads 17 = .ok (.invokevirtual 168, 3) := by decide +kernel
theorem dTC_settleLeads_20 : decode cTC_settleLeads 20 = .ok (.iastore, 1) := by decide +kernel
theorem dTC_settleLeads_21 : decode cTC_settleLeads 21 = .ok (.iinc 1 1, 3) := by decide +kernel
theorem dTC_settleLeads_24 : decode cTC_settleLeads 24 = .ok (.goto (-22), 3) := by decide +kernel
theorem dTC_settleLeads_27 : decode cTC_settleLeads 27 = .ok (.iconst 0, 1) := by decide +kernel
theorem dTC_settleLeads_28 : decode cTC_settleLeads 28 = .ok (.istore_n 1, 1) := by decide +kernel
theorem dTC_settleLeads_29 : decode cTC_settleLeads 29 = .ok (.iload_n 1, 1) := by decide +kernel
theorem dTC_settleLeads_30 : decode cTC_settleLeads 30 = .ok (.aload_n 0, 1) := by decide +kernel
theorem dTC_settleLeads_31 : decode cTC_settleLeads 31 = .ok (.getfield 35, 3) := by decide +kernel
theorem dTC_settleLeads_34 : decode cTC_settleLeads 34 = .ok (.if_icmp .ge 53, 3) := by decide +kernel
theorem dTC_settleLeads_37 : decode cTC_settleLeads 37 = .ok (.iconst 0, 1) := by decide +kernel
theorem dTC_settleLeads_38 : decode cTC_settleLeads 38 = .ok (.istore_n 2, 1) := by decide +kernel
theorem dTC_settleLeads_39 : decode cTC_settleLeads 39 = .ok (.iload_n 2, 1) := by decide +kernel
theorem dTC_settleLeads_40 : decode cTC_settleLeads 40 = .ok (.aload_n 0, 1) := by decide +kernel
theorem dTC_settleLeads_41 : decode cTC_settleLeads 41 = .ok (.getfield 35, 3) := by decide +kernel
theorem dTC_settleLeads_44 : decode cTC_settleLeads 44 = .ok (.if_icmp .ge 37, 3) := by decide +kernel
theorem dTC_settleLeads_47 : decode cTC_settleLeads 47 = .ok (.aload_n 0, 1) := by decide +kernel
theorem dTC_settleLeads_48 : decode cTC_settleLeads 48 = .ok (.getfield 73, 3) := by decide +kernel
theorem dTC_settleLeads_51 : decode cTC_settleLeads 51 = .ok (.iload_n 2, 1) := by decide +kernel
theorem dTC_settleLeads_52 : decode cTC_settleLeads 52 = .ok (.iaload, 1) := by decide +kernel
theorem dTC_settleLeads_53 : decode cTC_settleLeads 53 = .ok (.iload_n 1, 1) := by decide +kernel
theorem dTC_settleLeads_54 : decode cTC_settleLeads 54 = .ok (.invokestatic 93, 3) := by decide +kernel
theorem dTC_settleLeads_57 : decode cTC_settleLeads 57 = .ok (.ifCond .eq 18, 3) := by decide +kernel
theorem dTC_settleLeads_60 : decode cTC_settleLeads 60 = .ok (.aload_n 0, 1) := by decide +kernel
theorem dTC_settleLeads_61 : decode cTC_settleLeads 61 = .ok (.getfield 73, 3) := by decide +kernel
theorem dTC_settleLeads_64 : decode cTC_settleLeads 64 = .ok (.iload_n 2, 1) := by decide +kernel
theorem dTC_settleLeads_65 : decode cTC_settleLeads 65 = .ok (.dup2, 1) := by decide +kernel
theorem dTC_settleLeads_66 : decode cTC_settleLeads 66 = .ok (.iaload, 1) := by decide +kernel
theorem dTC_settleLeads_67 : decode cTC_settleLeads 67 = .ok (.aload_n 0, 1) := by decide +kernel
theorem dTC_settleLeads_68 : decode cTC_settleLeads 68 = .ok (.getfield 73, 3) := by decide +kernel
theorem dTC_settleLeads_71 : decode cTC_settleLeads 71 = .ok (.iload_n 1, 1) := by decide +kernel
theorem dTC_settleLeads_72 : decode cTC_settleLeads 72 = .ok (.iaload, 1) := by decide +kernel
theorem dTC_settleLeads_73 : decode cTC_settleLeads 73 = .ok (.ior, 1) := by decide +kernel
theorem dTC_settleLeads_74 : decode cTC_settleLeads 74 = .ok (.iastore, 1) := by decide +kernel
theorem dTC_settleLeads_75 : decode cTC_settleLeads 75 = .ok (.iinc 2 1, 3) := by decide +kernel
theorem dTC_settleLeads_78 : decode cTC_settleLeads 78 = .ok (.goto (-39), 3) := by decide +kernel
theorem dTC_settleLeads_81 : decode cTC_settleLeads 81 = .ok (.iinc 1 1, 3) := by decide +kernel
theorem dTC_settleLeads_84 : decode cTC_settleLeads 84 = .ok (.goto (-55), 3) := by decide +kernel
theorem dTC_settleLeads_87 : decode cTC_settleLeads 87 = .ok (.return_, 1) := by decide +kernel
theorem dTC_stepsFrom_0 : decode cTC_stepsFrom 0 = .ok (.iconst 0, 1) := by decide +kernel
theorem dTC_stepsFrom_1 : decode cTC_stepsFrom 1 = .ok (.istore_n 2, 1) := by decide +kernel
theorem dTC_stepsFrom_2 : decode cTC_stepsFrom 2 = .ok (.iconst 0, 1) := by decide +kernel
theorem dTC_stepsFrom_3 : decode cTC_stepsFrom 3 = .ok (.istore_n 3, 1) := by decide +kernel
theorem dTC_stepsFrom_4 : decode cTC_stepsFrom 4 = .ok (.iload_n 3, 1) := by decide +kernel
theorem dTC_stepsFrom_5 : decode cTC_stepsFrom 5 = .ok (.aload_n 0, 1) := by decide +kernel
theorem dTC_stepsFrom_6 : decode cTC_stepsFrom 6 = .ok (.getfield 35, 3) := by decide +kernel
theorem dTC_stepsFrom_9 : decode cTC_stepsFrom 9 = .ok (.if_icmp .ge 72, 3) := by decide +kernel
theorem dTC_stepsFrom_12 : decode cTC_stepsFrom 12 = .ok (.aload_n 0, 1) := by decide +kernel
theorem dTC_stepsFrom_13 : decode cTC_stepsFrom 13 = .ok (.getfield 29, 3) := by decide +kernel
theorem dTC_stepsFrom_16 : decode cTC_stepsFrom 16 = .ok (.iload_n 1, 1) := by decide +kernel
theorem dTC_stepsFrom_17 : decode cTC_stepsFrom 17 = .ok (.iaload, 1) := by decide +kernel
theorem dTC_stepsFrom_18 : decode cTC_stepsFrom 18 = .ok (.aload_n 0, 1) := by decide +kernel
theorem dTC_stepsFrom_19 : decode cTC_stepsFrom 19 = .ok (.getfield 17, 3) := by decide +kernel
theorem dTC_stepsFrom_22 : decode cTC_stepsFrom 22 = .ok (.iload_n 3, 1) := by decide +kernel
theorem dTC_stepsFrom_23 : decode cTC_stepsFrom 23 = .ok (.iaload, 1) := by decide +kernel
theorem dTC_stepsFrom_24 : decode cTC_stepsFrom 24 = .ok (.invokestatic 93, 3) := by decide +kernel
theorem dTC_stepsFrom_27 : decode cTC_stepsFrom 27 = .ok (.istore 4, 2) := by decide +kernel
theorem dTC_stepsFrom_29 : decode cTC_stepsFrom 29 = .ok (.aload_n 0, 1) := by decide +kernel
theorem dTC_stepsFrom_30 : decode cTC_stepsFrom 30 = .ok (.getfield 64, 3) := by decide +kernel
theorem dTC_stepsFrom_33 : decode cTC_stepsFrom 33 = .ok (.iload_n 3, 1) := by decide +kernel
theorem dTC_stepsFrom_34 : decode cTC_stepsFrom 34 = .ok (.iaload, 1) := by decide +kernel
theorem dTC_stepsFrom_35 : decode cTC_stepsFrom 35 = .ok (.aload_n 0, 1) := by decide +kernel
theorem dTC_stepsFrom_36 : decode cTC_stepsFrom 36 = .ok (.iload_n 1, 1) := by decide +kernel
theorem dTC_stepsFrom_37 : decode cTC_stepsFrom 37 = .ok (.invokevirtual 171, 3) := by decide +kernel
theorem dTC_stepsFrom_40 : decode cTC_stepsFrom 40 = .ok (.iand, 1) := by decide +kernel
theorem dTC_stepsFrom_41 : decode cTC_stepsFrom 41 = .ok (.ifCond .eq 7, 3) := by decide +kernel
theorem dTC_stepsFrom_44 : decode cTC_stepsFrom 44 = .ok (.iconst 1, 1) := by decide +kernel
theorem dTC_stepsFrom_45 : decode cTC_stepsFrom 45 = .ok (.goto 4, 3) := by decide +kernel
theorem dTC_stepsFrom_48 : decode cTC_stepsFrom 48 = .ok (.iconst 0, 1) := by decide +kernel
theorem dTC_stepsFrom_49 : decode cTC_stepsFrom 49 = .ok (.istore 5, 2) := by decide +kernel
theorem dTC_stepsFrom_51 : decode cTC_stepsFrom 51 = .ok (.iload 4, 2) := by decide +kernel
theorem dTC_stepsFrom_53 : decode cTC_stepsFrom 53 = .ok (.ifCond .eq 22, 3) := by decide +kernel
theorem dTC_stepsFrom_56 : decode cTC_stepsFrom 56 = .ok (.iload 5, 2) := by decide +kernel
theorem dTC_stepsFrom_58 : decode cTC_stepsFrom 58 = .ok (.ifCond .eq 17, 3) := by decide +kernel
theorem dTC_stepsFrom_61 : decode cTC_stepsFrom 61 = .ok (.aload_n 0, 1) := by decide +kernel
theorem dTC_stepsFrom_62 : decode cTC_stepsFrom 62 = .ok (.iload_n 3, 1) := by decide +kernel
theorem dTC_stepsFrom_63 : decode cTC_stepsFrom 63 = .ok (.invokevirtual 171, 3) := by decide +kernel
theorem dTC_stepsFrom_66 : decode cTC_stepsFrom 66 = .ok (.ifCond .eq 9, 3) := by decide +kernel
theorem dTC_stepsFrom_69 : decode cTC_stepsFrom 69 = .ok (.iload_n 2, 1) := by decide +kernel
theorem dTC_stepsFrom_70 : decode cTC_stepsFrom 70 = .ok (.iconst 1, 1) := by decide +kernel
theorem dTC_stepsFrom_71 : decode cTC_stepsFrom 71 = .ok (.iload_n 3, 1) := by decide +kernel
theorem dTC_stepsFrom_72 : decode cTC_stepsFrom 72 = .ok (.ishl, 1) := by decide +kernel
theorem dTC_stepsFrom_73 : decode cTC_stepsFrom 73 = .ok (.ior, 1) := by decide +kernel
theorem dTC_stepsFrom_74 : decode cTC_stepsFrom 74 = .ok (.istore_n 2, 1) := by decide +kernel
theorem dTC_stepsFrom_75 : decode cTC_stepsFrom 75 = .ok (.iinc 3 1, 3) := by decide +kernel
theorem dTC_stepsFrom_78 : decode cTC_stepsFrom 78 = .ok (.goto (-74), 3) := by decide +kernel
theorem dTC_stepsFrom_81 : decode cTC_stepsFrom 81 = .ok (.iload_n 2, 1) := by decide +kernel
theorem dTC_stepsFrom_82 : decode cTC_stepsFrom 82 = .ok (.ireturn, 1) := by decide +kernel
theorem dTC_unbuiltOn_0 : decode cTC_unbuiltOn 0 = .ok (.aload_n 0, 1) := by decide +kernel
theorem dTC_unbuiltOn_1 : decode cTC_unbuiltOn 1 = .ok (.getfield 61, 3) := by decide +kernel
theorem dTC_unbuiltOn_4 : decode cTC_unbuiltOn 4 = .ok (.iload_n 1, 1) := by decide +kernel
theorem dTC_unbuiltOn_5 : decode cTC_unbuiltOn 5 = .ok (.iaload, 1) := by decide +kernel
theorem dTC_unbuiltOn_6 : decode cTC_unbuiltOn 6 = .ok (.aload_n 0, 1) := by decide +kernel
theorem dTC_unbuiltOn_7 : decode cTC_unbuiltOn 7 = .ok (.getfield 67, 3) := by decide +kernel
theorem dTC_unbuiltOn_10 : decode cTC_unbuiltOn 10 = .ok (.iload_n 1, 1) := by decide +kernel
theorem dTC_unbuiltOn_11 : decode cTC_unbuiltOn 11 = .ok (.iaload, 1) := by decide +kernel
theorem dTC_unbuiltOn_12 : decode cTC_unbuiltOn 12 = .ok (.iconst (-1), 1) := by decide +kernel
theorem dTC_unbuiltOn_13 : decode cTC_unbuiltOn 13 = .ok (.ixor, 1) := by decide +kernel
theorem dTC_unbuiltOn_14 : decode cTC_unbuiltOn 14 = .ok (.iand, 1) := by decide +kernel
theorem dTC_unbuiltOn_15 : decode cTC_unbuiltOn 15 = .ok (.ireturn, 1) := by decide +kernel
end
section
theorem dMO_init_0 : decode cMO_init 0 = .ok (.aload_n 0, 1) := by decide +kernel
theorem dMO_init_1 : decode cMO_init 1 = .ok (.invokespecial 1, 3) := by decide +kernel
theorem dMO_init_4 : decode cMO_init 4 = .ok (.aload_n 0, 1) := by decide +kernel
theorem dMO_init_5 : decode cMO_init 5 = .ok (.bipush 6, 2) := by decide +kernel
theorem dMO_init_7 : decode cMO_init 7 = .ok (.newarray .int, 2) := by decide +kernel
theorem dMO_init_9 : decode cMO_init 9 = .ok (.putfield 7, 3) := by decide +kernel
theorem dMO_init_12 : decode cMO_init 12 = .ok (.aload_n 0, 1) := by decide +kernel
theorem dMO_init_13 : decode cMO_init 13 = .ok (.bipush 24, 2) := by decide +kernel
theorem dMO_init_15 : decode cMO_init 15 = .ok (.newarray .int, 2) := by decide +kernel
theorem dMO_init_17 : decode cMO_init 17 = .ok (.putfield 13, 3) := by decide +kernel
theorem dMO_init_20 : decode cMO_init 20 = .ok (.aload_n 0, 1) := by decide +kernel
theorem dMO_init_21 : decode cMO_init 21 = .ok (.bipush 24, 2) := by decide +kernel
theorem dMO_init_23 : decode cMO_init 23 = .ok (.newarray .int, 2) := by decide +kernel
theorem dMO_init_25 : decode cMO_init 25 = .ok (.putfield 16, 3) := by decide +kernel
theorem dMO_init_28 : decode cMO_init 28 = .ok (.aload_n 0, 1) := by decide +kernel
theorem dMO_init_29 : decode cMO_init 29 = .ok (.bipush 24, 2) := by decide +kernel
theorem dMO_init_31 : decode cMO_init 31 = .ok (.newarray .int, 2) := by decide +kernel
theorem dMO_init_33 : decode cMO_init 33 = .ok (.putfield 19, 3) := by decide +kernel
theorem dMO_init_36 : decode cMO_init 36 = .ok (.aload_n 0, 1) := by decide +kernel
theorem dMO_init_37 : decode cMO_init 37 = .ok (.bipush 24, 2) := by decide +kernel
theorem dMO_init_39 : decode cMO_init 39 = .ok (.newarray .int, 2) := by decide +kernel
theorem dMO_init_41 : decode cMO_init 41 = .ok (.putfield 22, 3) := by decide +kernel
theorem dMO_init_44 : decode cMO_init 44 = .ok (.aload_n 0, 1) := by decide +kernel
theorem dMO_init_45 : decode cMO_init 45 = .ok (.bipush 24, 2) := by decide +kernel
theorem dMO_init_47 : decode cMO_init 47 = .ok (.newarray .int, 2) := by decide +kernel
theorem dMO_init_49 : decode cMO_init 49 = .ok (.putfield 25, 3) := by decide +kernel
theorem dMO_init_52 : decode cMO_init 52 = .ok (.aload_n 0, 1) := by decide +kernel
theorem dMO_init_53 : decode cMO_init 53 = .ok (.bipush 40, 2) := by decide +kernel
theorem dMO_init_55 : decode cMO_init 55 = .ok (.newarray .int, 2) := by decide +kernel
theorem dMO_init_57 : decode cMO_init 57 = .ok (.putfield 28, 3) := by decide +kernel
theorem dMO_init_60 : decode cMO_init 60 = .ok (.aload_n 0, 1) := by decide +kernel
theorem dMO_init_61 : decode cMO_init 61 = .ok (.bipush 40, 2) := by decide +kernel
theorem dMO_init_63 : decode cMO_init 63 = .ok (.newarray .int, 2) := by decide +kernel
theorem dMO_init_65 : decode cMO_init 65 = .ok (.putfield 31, 3) := by decide +kernel
theorem dMO_init_68 : decode cMO_init 68 = .ok (.aload_n 0, 1) := by decide +kernel
theorem dMO_init_69 : decode cMO_init 69 = .ok (.bipush 8, 2) := by decide +kernel
theorem dMO_init_71 : decode cMO_init 71 = .ok (.newarray .int, 2) := by decide +kernel
theorem dMO_init_73 : decode cMO_init 73 = .ok (.putfield 34, 3) := by decide +kernel
theorem dMO_init_76 : decode cMO_init 76 = .ok (.aload_n 0, 1) := by decide +kernel
theorem dMO_init_77 : decode cMO_init 77 = .ok (.bipush 8, 2) := by decide +kernel
theorem dMO_init_79 : decode cMO_init 79 = .ok (.newarray .int, 2) := by decide +kernel
theorem dMO_init_81 : decode cMO_init 81 = .ok (.putfield 37, 3) := by decide +kernel
theorem dMO_init_84 : decode cMO_init 84 = .ok (.aload_n 0, 1) := by decide +kernel
theorem dMO_init_85 : decode cMO_init 85 = .ok (.bipush 8, 2) := by decide +kernel
theorem dMO_init_87 : decode cMO_init 87 = .ok (.newarray .int, 2) := by decide +kernel
theorem dMO_init_89 : decode cMO_init 89 = .ok (.putfield 40, 3) := by decide +kernel
theorem dMO_init_92 : decode cMO_init 92 = .ok (.aload_n 0, 1) := by decide +kernel
theorem dMO_init_93 : decode cMO_init 93 = .ok (.bipush 8, 2) := by decide +kernel
theorem dMO_init_95 : decode cMO_init 95 = .ok (.newarray .int, 2) := by decide +kernel
theorem dMO_init_97 : decode cMO_init 97 = .ok (.putfield 43, 3) := by decide +kernel
theorem dMO_init_100 : decode cMO_init 100 = .ok (.aload_n 0, 1) := by decide +kernel
theorem dMO_init_101 : decode cMO_init 101 = .ok (.bipush 8, 2) := by decide +kernel
theorem dMO_init_103 : decode cMO_init 103 = .ok (.newarray .boolean, 2) := by decide +kernel
theorem dMO_init_105 : decode cMO_init 105 = .ok (.putfield 46, 3) := by decide +kernel
theorem dMO_init_108 : decode cMO_init 108 = .ok (.aload_n 0, 1) := by decide +kernel
theorem dMO_init_109 : decode cMO_init 109 = .ok (.sipush 144, 3) := by decide +kernel
theorem dMO_init_112 : decode cMO_init 112 = .ok (.newarray .boolean, 2) := by decide +kernel
theorem dMO_init_114 : decode cMO_init 114 = .ok (.putfield 50, 3) := by decide +kernel
theorem dMO_init_117 : decode cMO_init 117 = .ok (.aload_n 0, 1) := by decide +kernel
theorem dMO_init_118 : decode cMO_init 118 = .ok (.sipush 144, 3) := by decide +kernel
theorem dMO_init_121 : decode cMO_init 121 = .ok (.newarray .boolean, 2) := by decide +kernel
theorem dMO_init_123 : decode cMO_init 123 = .ok (.putfield 53, 3) := by decide +kernel
theorem dMO_init_126 : decode cMO_init 126 = .ok (.aload_n 0, 1) := by decide +kernel
theorem dMO_init_127 : decode cMO_init 127 = .ok (.sipush 200, 3) := by decide +kernel
theorem dMO_init_130 : decode cMO_init 130 = .ok (.newarray .int, 2) := by decide +kernel
theorem dMO_init_132 : decode cMO_init 132 = .ok (.putfield 56, 3) := by decide +kernel
theorem dMO_init_135 : decode cMO_init 135 = .ok (.aload_n 0, 1) := by decide +kernel
theorem dMO_init_136 : decode cMO_init 136 = .ok (.sipush 200, 3) := by decide +kernel
theorem dMO_init_139 : decode cMO_init 139 = .ok (.newarray .int, 2) := by decide +kernel
theorem dMO_init_141 : decode cMO_init 141 = .ok (.putfield 59, 3) := by decide +kernel
theorem dMO_init_144 : decode cMO_init 144 = .ok (.aload_n 0, 1) := by decide +kernel
theorem dMO_init_145 : decode cMO_init 145 = .ok (.sipush 200, 3) := by decide +kernel
theorem dMO_init_148 : decode cMO_init 148 = .ok (.newarray .int, 2) := by decide +kernel
theorem dMO_init_150 : decode cMO_init 150 = .ok (.putfield 62, 3) := by decide +kernel
theorem dMO_init_153 : decode cMO_init 153 = .ok (.aload_n 0, 1) := by decide +kernel
theorem dMO_init_154 : decode cMO_init 154 = .ok (.sipush 200, 3) := by decide +kernel
theorem dMO_init_157 : decode cMO_init 157 = .ok (.newarray .int, 2) := by decide +kernel
theorem dMO_init_159 : decode cMO_init 159 = .ok (.putfield 65, 3) := by decide +kernel
theorem dMO_init_162 : decode cMO_init 162 = .ok (.iconst 0, 1) := by decide +kernel
theorem dMO_init_163 : decode cMO_init 163 = .ok (.istore_n 1, 1) := by decide +kernel
theorem dMO_init_164 : decode cMO_init 164 = .ok (.iload_n 1, 1) := by decide +kernel
theorem dMO_init_165 : decode cMO_init 165 = .ok (.bipush 8, 2) := by decide +kernel
theorem dMO_init_167 : decode cMO_init 167 = .ok (.if_icmp .ge 23, 3) := by decide +kernel
theorem dMO_init_170 : decode cMO_init 170 = .ok (.aload_n 0, 1) := by decide +kernel
theorem dMO_init_171 : decode cMO_init 171 = .ok (.getfield 40, 3) := by decide +kernel
theorem dMO_init_174 : decode cMO_init 174 = .ok (.iload_n 1, 1) := by decide +kernel
theorem dMO_init_175 : decode cMO_init 175 = .ok (.iconst (-1), 1) := by decide +kernel
theorem dMO_init_176 : decode cMO_init 176 = .ok (.iastore, 1) := by decide +kernel
theorem dMO_init_177 : decode cMO_init 177 = .ok (.aload_n 0, 1) := by decide +kernel
theorem dMO_init_178 : decode cMO_init 178 = .ok (.getfield 43, 3) := by decide +kernel
theorem dMO_init_181 : decode cMO_init 181 = .ok (.iload_n 1, 1) := by decide +kernel
theorem dMO_init_182 : decode cMO_init 182 = .ok (.iconst (-1), 1) := by decide +kernel
theorem dMO_init_183 : decode cMO_init 183 = .ok (.iastore, 1) := by decide +kernel
theorem dMO_init_184 : decode cMO_init 184 = .ok (.iinc 1 1, 3) := by decide +kernel
theorem dMO_init_187 : decode cMO_init 187 = .ok (.goto (-23), 3) := by decide +kernel
theorem dMO_init_190 : decode cMO_init 190 = .ok (.return_, 1) := by decide +kernel
theorem dMO_isPlatform_0 : decode cMO_isPlatform 0 = .ok (.iload_n 1, 1) := by decide +kernel
theorem dMO_isPlatform_1 : decode cMO_isPlatform 1 = .ok (.ifCond .lt 15, 3) := by decide +kernel
theorem dMO_isPlatform_4 : decode cMO_isPlatform 4 = .ok (.iload_n 1, 1) := by decide +kernel
theorem dMO_isPlatform_5 : decode cMO_isPlatform 5 = .ok (.aload_n 0, 1) := by decide +kernel
theorem dMO_isPlatform_6 : decode cMO_isPlatform 6 = .ok (.getfield 72, 3) := by decide +kernel
theorem dMO_isPlatform_9 : decode cMO_isPlatform 9 = .ok (.if_icmp .ge 7, 3) := by decide +kernel
theorem dMO_isPlatform_12 : decode cMO_isPlatform 12 = .ok (.iconst 1, 1) := by decide +kernel
theorem dMO_isPlatform_13 : decode cMO_isPlatform 13 = .ok (.goto 4, 3) := by decide +kernel
theorem dMO_isPlatform_16 : decode cMO_isPlatform 16 = .ok (.iconst 0, 1) := by decide +kernel
theorem dMO_isPlatform_17 : decode cMO_isPlatform 17 = .ok (.ireturn, 1) := by decide +kernel
theorem dMO_isTool_0 : decode cMO_isTool 0 = .ok (.iload_n 1, 1) := by decide +kernel
theorem dMO_isTool_1 : decode cMO_isTool 1 = .ok (.ifCond .lt 15, 3) := by decide +kernel
theorem dMO_isTool_4 : decode cMO_isTool 4 = .ok (.iload_n 1, 1) := by decide +kernel
theorem dMO_isTool_5 : decode cMO_isTool 5 = .ok (.aload_n 0, 1) := by decide +kernel
theorem dMO_isTool_6 : decode cMO_isTool 6 = .ok (.getfield 75, 3) := by decide +kernel
theorem dMO_isTool_9 : decode cMO_isTool 9 = .ok (.if_icmp .ge 7, 3) := by decide +kernel
theorem dMO_isTool_12 : decode cMO_isTool 12 = .ok (.iconst 1, 1) := by decide +kernel
theorem dMO_isTool_13 : decode cMO_isTool 13 = .ok (.goto 4, 3) := by decide +kernel
theorem dMO_isTool_16 : decode cMO_isTool 16 = .ok (.iconst 0, 1) := by decide +kernel
theorem dMO_isTool_17 : decode cMO_isTool 17 = .ok (.ireturn, 1) := by decide +kernel
theorem dMO_isKind_0 : decode cMO_isKind 0 = .ok (.iload_n 0, 1) := by decide +kernel
theorem dMO_isKind_1 : decode cMO_isKind 1 = .ok (.ifCond .lt 13, 3) := by decide +kernel
theorem dMO_isKind_4 : decode cMO_isKind 4 = .ok (.iload_n 0, 1) := by decide +kernel
theorem dMO_isKind_5 : decode cMO_isKind 5 = .ok (.bipush 8, 2) := by decide +kernel
theorem dMO_isKind_7 : decode cMO_isKind 7 = .ok (.if_icmp .ge 7, 3) := by decide +kernel
theorem dMO_isKind_10 : decode cMO_isKind 10 = .ok (.iconst 1, 1) := by decide +kernel
theorem dMO_isKind_11 : decode cMO_isKind 11 = .ok (.goto 4, 3) := by decide +kernel
theorem dMO_isKind_14 : decode cMO_isKind 14 = .ok (.iconst 0, 1) := by decide +kernel
theorem dMO_isKind_15 : decode cMO_isKind 15 = .ok (.ireturn, 1) := by decide +kernel
theorem dMO_platform_0 : decode cMO_platform 0 = .ok (.aload_n 0, 1) := by decide +kernel
theorem dMO_platform_1 : decode cMO_platform 1 = .ok (.iconst 0, 1) := by decide +kernel
theorem dMO_platform_2 : decode cMO_platform 2 = .ok (.putfield 68, 3) := by decide +kernel
theorem dMO_platform_5 : decode cMO_platform 5 = .ok (.aload_n 0, 1) := by decide +kernel
theorem dMO_platform_6 : decode cMO_platform 6 = .ok (.getfield 72, 3) := by decide +kernel
theorem dMO_platform_9 : decode cMO_platform 9 = .ok (.bipush 6, 2) := by decide +kernel
theorem dMO_platform_11 : decode cMO_platform 11 = .ok (.if_icmp .ne 5, 3) := by decide +kernel
theorem dMO_platform_14 : decode cMO_platform 14 = .ok (.iconst (-1), 1) := by decide +kernel
theorem dMO_platform_15 : decode cMO_platform 15 = .ok (.ireturn, 1) := by decide +kernel
theorem dMO_platform_16 : decode cMO_platform 16 = .ok (.aload_n 0, 1) := by decide +kernel
theorem dMO_platform_17 : decode cMO_platform 17 = .ok (.getfield 7, 3) := by decide +kernel
theorem dMO_platform_20 : decode cMO_platform 20 = .ok (.aload_n 0, 1) := by decide +kernel
theorem dMO_platform_21 : decode cMO_platform 21 = .ok (.getfield 72, 3) := by decide +kernel
theorem dMO_platform_24 : decode cMO_platform 24 = .ok (.iload_n 1, 1) := by decide +kernel
theorem dMO_platform_25 : decode cMO_platform 25 = .ok (.iastore, 1) := by decide +kernel
theorem dMO_platform_26 : decode cMO_platform 26 = .ok (.aload_n 0, 1) := by decide +kernel
theorem dMO_platform_27 : decode cMO_platform 27 = .ok (.dup, 1) := by decide +kernel
theorem dMO_platform_28 : decode cMO_platform 28 = .ok (.getfield 72, 3) := by decide +kernel
theorem dMO_platform_31 : decode cMO_platform 31 = .ok (.iconst 1, 1) := by decide +kernel
theorem dMO_platform_32 : decode cMO_platform 32 = .ok (.iadd, 1) := by decide +kernel
theorem dMO_platform_33 : decode cMO_platform 33 = .ok (.putfield 72, 3) := by decide +kernel
theorem dMO_platform_36 : decode cMO_platform 36 = .ok (.aload_n 0, 1) := by decide +kernel
theorem dMO_platform_37 : decode cMO_platform 37 = .ok (.getfield 72, 3) := by decide +kernel
theorem dMO_platform_40 : decode cMO_platform 40 = .ok (.iconst 1, 1) := by decide +kernel
theorem dMO_platform_41 : decode cMO_platform 41 = .ok (.isub, 1) := by decide +kernel
theorem dMO_platform_42 : decode cMO_platform 42 = .ok (.ireturn, 1) := by decide +kernel
theorem dMO_tool_0 : decode cMO_tool 0 = .ok (.aload_n 0, 1) := by decide +kernel
theorem dMO_tool_1 : decode cMO_tool 1 = .ok (.iconst 0, 1) := by decide +kernel
theorem dMO_tool_2 : decode cMO_tool 2 = .ok (.putfield 68, 3) := by decide +kernel
theorem dMO_tool_5 : decode cMO_tool 5 = .ok (.aload_n 0, 1) := by decide +kernel
theorem dMO_tool_6 : decode cMO_tool 6 = .ok (.getfield 75, 3) := by decide +kernel
theorem dMO_tool_9 : decode cMO_tool 9 = .ok (.bipush 24, 2) := by decide +kernel
theorem dMO_tool_11 : decode cMO_tool 11 = .ok (.if_icmp .eq 10, 3) := by decide +kernel
theorem dMO_tool_14 : decode cMO_tool 14 = .ok (.iload_n 1, 1) := by decide +kernel
theorem dMO_tool_15 : decode cMO_tool 15 = .ok (.invokestatic 78, 3) := by decide +kernel
theorem dMO_tool_18 : decode cMO_tool 18 = .ok (.ifCond .ne 5, 3) := by decide +kernel
theorem dMO_tool_21 : decode cMO_tool 21 = .ok (.iconst (-1), 1) := by decide +kernel
theorem dMO_tool_22 : decode cMO_tool 22 = .ok (.ireturn, 1) := by decide +kernel
theorem dMO_tool_23 : decode cMO_tool 23 = .ok (.aload_n 0, 1) := by decide +kernel
theorem dMO_tool_24 : decode cMO_tool 24 = .ok (.getfield 13, 3) := by decide +kernel
theorem dMO_tool_27 : decode cMO_tool 27 = .ok (.aload_n 0, 1) := by decide +kernel
theorem dMO_tool_28 : decode cMO_tool 28 = .ok (.getfield 75, 3) := by decide +kernel
theorem dMO_tool_31 : decode cMO_tool 31 = .ok (.iload_n 1, 1) := by decide +kernel
theorem dMO_tool_32 : decode cMO_tool 32 = .ok (.iastore, 1) := by decide +kernel
theorem dMO_tool_33 : decode cMO_tool 33 = .ok (.aload_n 0, 1) := by decide +kernel
theorem dMO_tool_34 : decode cMO_tool 34 = .ok (.getfield 16, 3) := by decide +kernel
theorem dMO_tool_37 : decode cMO_tool 37 = .ok (.aload_n 0, 1) := by decide +kernel
theorem dMO_tool_38 : decode cMO_tool 38 = .ok (.getfield 75, 3) := by decide +kernel
theorem dMO_tool_41 : decode cMO_tool 41 = .ok (.iload_n 2, 1) := by decide +kernel
theorem dMO_tool_42 : decode cMO_tool 42 = .ok (.iastore, 1) := by decide +kernel
theorem dMO_tool_43 : decode cMO_tool 43 = .ok (.aload_n 0, 1) := by decide +kernel
theorem dMO_tool_44 : decode cMO_tool 44 = .ok (.getfield 19, 3) := by decide +kernel
theorem dMO_tool_47 : decode cMO_tool 47 = .ok (.aload_n 0, 1) := by decide +kernel
theorem dMO_tool_48 : decode cMO_tool 48 = .ok (.getfield 75, 3) := by decide +kernel
theorem dMO_tool_51 : decode cMO_tool 51 = .ok (.iload_n 3, 1) := by decide +kernel
theorem dMO_tool_52 : decode cMO_tool 52 = .ok (.iastore, 1) := by decide +kernel
theorem dMO_tool_53 : decode cMO_tool 53 = .ok (.aload_n 0, 1) := by decide +kernel
theorem dMO_tool_54 : decode cMO_tool 54 = .ok (.getfield 22, 3) := by decide +kernel
theorem dMO_tool_57 : decode cMO_tool 57 = .ok (.aload_n 0, 1) := by decide +kernel
theorem dMO_tool_58 : decode cMO_tool 58 = .ok (.getfield 75, 3) := by decide +kernel
theorem dMO_tool_61 : decode cMO_tool 61 = .ok (.iload 4, 2) := by decide +kernel
theorem dMO_tool_63 : decode cMO_tool 63 = .ok (.iastore, 1) := by decide +kernel
theorem dMO_tool_64 : decode cMO_tool 64 = .ok (.aload_n 0, 1) := by decide +kernel
theorem dMO_tool_65 : decode cMO_tool 65 = .ok (.getfield 25, 3) := by decide +kernel
theorem dMO_tool_68 : decode cMO_tool 68 = .ok (.aload_n 0, 1) := by decide +kernel
theorem dMO_tool_69 : decode cMO_tool 69 = .ok (.getfield 75, 3) := by decide +kernel
theorem dMO_tool_72 : decode cMO_tool 72 = .ok (.aload_n 0, 1) := by decide +kernel
theorem dMO_tool_73 : decode cMO_tool 73 = .ok (.getfield 75, 3) := by decide +kernel
theorem dMO_tool_76 : decode cMO_tool 76 = .ok (.iastore, 1) := by decide +kernel
theorem dMO_tool_77 : decode cMO_tool 77 = .ok (.aload_n 0, 1) := by decide +kernel
theorem dMO_tool_78 : decode cMO_tool 78 = .ok (.dup, 1) := by decide +kernel
theorem dMO_tool_79 : decode cMO_tool 79 = .ok (.getfield 75, 3) := by decide +kernel
theorem dMO_tool_82 : decode cMO_tool 82 = .ok (.iconst 1, 1) := by decide +kernel
theorem dMO_tool_83 : decode cMO_tool 83 = .ok (.iadd, 1) := by decide +kernel
theorem dMO_tool_84 : decode cMO_tool 84 = .ok (.putfield 75, 3) := by decide +kernel
theorem dMO_tool_87 : decode cMO_tool 87 = .ok (.aload_n 0, 1) := by decide +kernel
theorem dMO_tool_88 : decode cMO_tool 88 = .ok (.getfield 75, 3) := by decide +kernel
theorem dMO_tool_91 : decode cMO_tool 91 = .ok (.iconst 1, 1) := by decide +kernel
theorem dMO_tool_92 : decode cMO_tool 92 = .ok (.isub, 1) := by decide +kernel
theorem dMO_tool_93 : decode cMO_tool 93 = .ok (.ireturn, 1) := by decide +kernel
theorem dMO_order_0 : decode cMO_order 0 = .ok (.aload_n 0, 1) := by decide +kernel
theorem dMO_order_1 : decode cMO_order 1 = .ok (.iconst 0, 1) := by decide +kernel
theorem dMO_order_2 : decode cMO_order 2 = .ok (.putfield 68, 3) := by decide +kernel
theorem dMO_order_5 : decode cMO_order 5 = .ok (.aload_n 0, 1) := by decide +kernel
theorem dMO_order_6 : decode cMO_order 6 = .ok (.iload_n 1, 1) := by decide +kernel
theorem dMO_order_7 : decode cMO_order 7 = .ok (.invokevirtual 82, 3) := by decide +kernel
theorem dMO_order_10 : decode cMO_order 10 = .ok (.ifCond .eq 11, 3) := by decide +kernel
theorem dMO_order_13 : decode cMO_order 13 = .ok (.aload_n 0, 1) := by decide +kernel
theorem dMO_order_14 : decode cMO_order 14 = .ok (.iload_n 2, 1) := by decide +kernel
theorem dMO_order_15 : decode cMO_order 15 = .ok (.invokevirtual 82, 3) := by decide +kernel
theorem dMO_order_18 : decode cMO_order 18 = .ok (.ifCond .ne 5, 3) := by decide +kernel
theorem dMO_order_21 : decode cMO_order 21 = .ok (.iconst 0, 1) := by decide +kernel
theorem dMO_order_22 : decode cMO_order 22 = .ok (.ireturn, 1) := by decide +kernel
theorem dMO_order_23 : decode cMO_order 23 = .ok (.iconst 0, 1) := by decide +kernel
theorem dMO_order_24 : decode cMO_order 24 = .ok (.istore_n 3, 1) := by decide +kernel
theorem dMO_order_25 : decode cMO_order 25 = .ok (.iconst 0, 1) := by decide +kernel
theorem dMO_order_26 : decode cMO_order 26 = .ok (.istore 4, 2) := by decide +kernel
theorem dMO_order_28 : decode cMO_order 28 = .ok (.iload 4, 2) := by decide +kernel
theorem dMO_order_30 : decode cMO_order 30 = .ok (.aload_n 0, 1) := by decide +kernel
theorem dMO_order_31 : decode cMO_order 31 = .ok (.getfield 75, 3) := by decide +kernel
theorem dMO_order_34 : decode cMO_order 34 = .ok (.if_icmp .ge 39, 3) := by decide +kernel
theorem dMO_order_37 : decode cMO_order 37 = .ok (.aload_n 0, 1) := by decide +kernel
theorem dMO_order_38 : decode cMO_order 38 = .ok (.getfield 25, 3) := by decide +kernel
theorem dMO_order_41 : decode cMO_order 41 = .ok (.iload 4, 2) := by decide +kernel
theorem dMO_order_43 : decode cMO_order 43 = .ok (.iaload, 1) := by decide +kernel
theorem dMO_order_44 : decode cMO_order 44 = .ok (.iload_n 1, 1) := by decide +kernel
theorem dMO_order_45 : decode cMO_order 45 = .ok (.if_icmp .ne 6, 3) := by decide +kernel
theorem dMO_order_48 : decode cMO_order 48 = .ok (.goto 19, 3) := by decide +kernel
theorem dMO_order_51 : decode cMO_order 51 = .ok (.aload_n 0, 1) := by decide +kernel
theorem dMO_order_52 : decode cMO_order 52 = .ok (.getfield 25, 3) := by decide +kernel
theorem dMO_order_55 : decode cMO_order 55 = .ok (.iload_n 3, 1) := by decide +kernel
theorem dMO_order_56 : decode cMO_order 56 = .ok (.aload_n 0, 1) := by decide +kernel
theorem dMO_order_57 : decode cMO_order 57 = .ok (.getfield 25, 3) := by decide +kernel
theorem dMO_order_60 : decode cMO_order 60 = .ok (.iload 4, 2) := by decide +kernel
theorem dMO_order_62 : decode cMO_order 62 = .ok (.iaload, 1) := by decide +kernel
theorem dMO_order_63 : decode cMO_order 63 = .ok (.iastore, 1) := by decide +kernel
theorem dMO_order_64 : decode cMO_order 64 = .ok (.iinc 3 1, 3) := by decide +kernel
theorem dMO_order_67 : decode cMO_order 67 = .ok (.iinc 4 1, 3) := by decide +kernel
theorem dMO_order_70 : decode cMO_order 70 = .ok (.goto (-42), 3) := by decide +kernel
theorem dMO_order_73 : decode cMO_order 73 = .ok (.iload_n 3, 1) := by decide +kernel
theorem dMO_order_74 : decode cMO_order 74 = .ok (.istore 4, 2) := by decide +kernel
theorem dMO_order_76 : decode cMO_order 76 = .ok (.iload 4, 2) := by decide +kernel
theorem dMO_order_78 : decode cMO_order 78 = .ok (.iload_n 2, 1) := by decide +kernel
theorem dMO_order_79 : decode cMO_order 79 = .ok (.if_icmp .le 25, 3) := by decide +kernel
theorem dMO_order_82 : decode cMO_order 82 = .ok (.aload_n 0, 1) := by decide +kernel
theorem dMO_order_83 : decode cMO_order 83 = .ok (.getfield 25, 3) := by decide +kernel
theorem dMO_order_86 : decode cMO_order 86 = .ok (.iload 4, 2) := by decide +kernel
theorem dMO_order_88 : decode cMO_order 88 = .ok (.aload_n 0, 1) := by decide +kernel
theorem dMO_order_89 : decode cMO_order 89 = .ok (.getfield 25, 3) := by decide +kernel
theorem dMO_order_92 : decode cMO_order 92 = .ok (.iload 4, 2) := by decide +kernel
theorem dMO_order_94 : decode cMO_order 94 = .ok (.iconst 1, 1) := by decide +kernel
theorem dMO_order_95 : decode cMO_order 95 = .ok (.isub, 1) := by decide +kernel
theorem dMO_order_96 : decode cMO_order 96 = .ok (.iaload, 1) := by decide +kernel
theorem dMO_order_97 : decode cMO_order 97 = .ok (.iastore, 1) := by decide +kernel
theorem dMO_order_98 : decode cMO_order 98 = .ok (.iinc 4 (-1), 3) := by decide +kernel
theorem dMO_order_101 : decode cMO_order 101 = .ok (.goto (-25), 3) := by decide +kernel
theorem dMO_order_104 : decode cMO_order 104 = .ok (.aload_n 0, 1) := by decide +kernel
theorem dMO_order_105 : decode cMO_order 105 = .ok (.getfield 25, 3) := by decide +kernel
theorem dMO_order_108 : decode cMO_order 108 = .ok (.iload_n 2, 1) := by decide +kernel
theorem dMO_order_109 : decode cMO_order 109 = .ok (.iload_n 1, 1) := by decide +kernel
theorem dMO_order_110 : decode cMO_order 110 = .ok (.iastore, 1) := by decide +kernel
theorem dMO_order_111 : decode cMO_order 111 = .ok (.iconst 1, 1) := by decide +kernel
theorem dMO_order_112 : decode cMO_order 112 = .ok (.ireturn, 1) := by decide +kernel
theorem dMO_wants_0 : decode cMO_wants 0 = .ok (.iconst 0, 1) := by decide +kernel
theorem dMO_wants_1 : decode cMO_wants 1 = .ok (.istore_n 3, 1) := by decide +kernel
theorem dMO_wants_2 : decode cMO_wants 2 = .ok (.iconst 0, 1) := by decide +kernel
theorem dMO_wants_3 : decode cMO_wants 3 = .ok (.istore 4, 2) := by decide +kernel
theorem dMO_wants_5 : decode cMO_wants 5 = .ok (.iload 4, 2) := by decide +kernel
theorem dMO_wants_7 : decode cMO_wants 7 = .ok (.aload_n 0, 1) := by decide +kernel
theorem dMO_wants_8 : decode cMO_wants 8 = .ok (.getfield 85, 3) := by decide +kernel
theorem dMO_wants_11 : decode cMO_wants 11 = .ok (.if_icmp .ge 41, 3) := by decide +kernel
theorem dMO_wants_14 : decode cMO_wants 14 = .ok (.iload_n 3, 1) := by decide +kernel
theorem dMO_wants_15 : decode cMO_wants 15 = .ok (.ifCond .ne 25, 3) := by decide +kernel
theorem dMO_wants_18 : decode cMO_wants 18 = .ok (.aload_n 0, 1) := by decide +kernel
theorem dMO_wants_19 : decode cMO_wants 19 = .ok (.getfield 28, 3) := by decide +kernel
theorem dMO_wants_22 : decode cMO_wants 22 = .ok (.iload 4, 2) := by decide +kernel
theorem dMO_wants_24 : decode cMO_wants 24 = .ok (.iaload, 1) := by decide +kernel
theorem dMO_wants_25 : decode cMO_wants 25 = .ok (.iload_n 1, 1) := by decide +kernel
theorem dMO_wants_26 : decode cMO_wants 26 = .ok (.if_icmp .ne 18, 3) := by decide +kernel
theorem dMO_wants_29 : decode cMO_wants 29 = .ok (.aload_n 0, 1) := by decide +kernel
theorem dMO_wants_30 : decode cMO_wants 30 = .ok (.getfield 31, 3) := by decide +kernel
theorem dMO_wants_33 : decode cMO_wants 33 = .ok (.iload 4, 2) := by decide +kernel
theorem dMO_wants_35 : decode cMO_wants 35 = .ok (.iaload, 1) := by decide +kernel
theorem dMO_wants_36 : decode cMO_wants 36 = .ok (.iload_n 2, 1) := by decide +kernel
theorem dMO_wants_37 : decode cMO_wants 37 = .ok (.if_icmp .ne 7, 3) := by decide +kernel
theorem dMO_wants_40 : decode cMO_wants 40 = .ok (.iconst 1, 1) := by decide +kernel
theorem dMO_wants_41 : decode cMO_wants 41 = .ok (.goto 4, 3) := by decide +kernel
theorem dMO_wants_44 : decode cMO_wants 44 = .ok (.iconst 0, 1) := by decide +kernel
theorem dMO_wants_45 : decode cMO_wants 45 = .ok (.istore_n 3, 1) := by decide +kernel
theorem dMO_wants_46 : decode cMO_wants 46 = .ok (.iinc 4 1, 3) := by decide +kernel
theorem dMO_wants_49 : decode cMO_wants 49 = .ok (.goto (-44), 3) := by decide +kernel
theorem dMO_wants_52 : decode cMO_wants 52 = .ok (.iload_n 3, 1) := by decide +kernel
theorem dMO_wants_53 : decode cMO_wants 53 = .ok (.ireturn, 1) := by decide +kernel
theorem dMO_needs_0 : decode cMO_needs 0 = .ok (.aload_n 0, 1) := by decide +kernel
theorem dMO_needs_1 : decode cMO_needs 1 = .ok (.iconst 0, 1) := by decide +kernel
theorem dMO_needs_2 : decode cMO_needs 2 = .ok (.putfield 68, 3) := by decide +kernel
theorem dMO_needs_5 : decode cMO_needs 5 = .ok (.aload_n 0, 1) := by decide +kernel
theorem dMO_needs_6 : decode cMO_needs 6 = .ok (.iload_n 1, 1) := by decide +kernel
theorem dMO_needs_7 : decode cMO_needs 7 = .ok (.invokevirtual 82, 3) := by decide +kernel
theorem dMO_needs_10 : decode cMO_needs 10 = .ok (.ifCond .eq 28, 3) := by decide +kernel
theorem dMO_needs_13 : decode cMO_needs 13 = .ok (.iload_n 2, 1) := by decide +kernel
theorem dMO_needs_14 : decode cMO_needs 14 = .ok (.invokestatic 78, 3) := by decide +kernel
theorem dMO_needs_17 : decode cMO_needs 17 = .ok (.ifCond .eq 21, 3) := by decide +kernel
theorem dMO_needs_20 : decode cMO_needs 20 = .ok (.aload_n 0, 1) := by decide +kernel
theorem dMO_needs_21 : decode cMO_needs 21 = .ok (.getfield 85, 3) := by decide +kernel
theorem dMO_needs_24 : decode cMO_needs 24 = .ok (.bipush 40, 2) := by decide +kernel
theorem dMO_needs_26 : decode cMO_needs 26 = .ok (.if_icmp .eq 12, 3) := by decide +kernel
theorem dMO_needs_29 : decode cMO_needs 29 = .ok (.aload_n 0, 1) := by decide +kernel
theorem dMO_needs_30 : decode cMO_needs 30 = .ok (.iload_n 1, 1) := by decide +kernel
theorem dMO_needs_31 : decode cMO_needs 31 = .ok (.iload_n 2, 1) := by decide +kernel
theorem dMO_needs_32 : decode cMO_needs 32 = .ok (.invokevirtual 88, 3) := by decide +kernel
theorem dMO_needs_35 : decode cMO_needs 35 = .ok (.ifCond .eq 5, 3) := by decide +kernel
theorem dMO_needs_38 : decode cMO_needs 38 = .ok (.iconst 0, 1) := by decide +kernel
theorem dMO_needs_39 : decode cMO_needs 39 = .ok (.ireturn, 1) := by decide +kernel
theorem dMO_needs_40 : decode cMO_needs 40 = .ok (.aload_n 0, 1) := by decide +kernel
theorem dMO_needs_41 : decode cMO_needs 41 = .ok (.getfield 28, 3) := by decide +kernel
theorem dMO_needs_44 : decode cMO_needs 44 = .ok (.aload_n 0, 1) := by decide +kernel
theorem dMO_needs_45 : decode cMO_needs 45 = .ok (.getfield 85, 3) := by decide +kernel
theorem dMO_needs_48 : decode cMO_needs 48 = .ok (.iload_n 1, 1) := by decide +kernel
theorem dMO_needs_49 : decode cMO_needs 49 = .ok (.iastore, 1) := by decide +kernel
theorem dMO_needs_50 : decode cMO_needs 50 = .ok (.aload_n 0, 1) := by decide +kernel
theorem dMO_needs_51 : decode cMO_needs 51 = .ok (.getfield 31, 3) := by decide +kernel
theorem dMO_needs_54 : decode cMO_needs 54 = .ok (.aload_n 0, 1) := by decide +kernel
theorem dMO_needs_55 : decode cMO_needs 55 = .ok (.getfield 85, 3) := by decide +kernel
theorem dMO_needs_58 : decode cMO_needs 58 = .ok (.iload_n 2, 1) := by decide +kernel
theorem dMO_needs_59 : decode cMO_needs 59 = .ok (.iastore, 1) := by decide +kernel
theorem dMO_needs_60 : decode cMO_needs 60 = .ok (.aload_n 0, 1) := by decide +kernel
theorem dMO_needs_61 : decode cMO_needs 61 = .ok (.dup, 1) := by decide +kernel
theorem dMO_needs_62 : decode cMO_needs 62 = .ok (.getfield 85, 3) := by decide +kernel
theorem dMO_needs_65 : decode cMO_needs 65 = .ok (.iconst 1, 1) := by decide +kernel
theorem dMO_needs_66 : decode cMO_needs 66 = .ok (.iadd, 1) := by decide +kernel
theorem dMO_needs_67 : decode cMO_needs 67 = .ok (.putfield 85, 3) := by decide +kernel
theorem dMO_needs_70 : decode cMO_needs 70 = .ok (.iconst 1, 1) := by decide +kernel
theorem dMO_needs_71 : decode cMO_needs 71 = .ok (.ireturn, 1) := by decide +kernel
theorem dMO_place_0 : decode cMO_place 0 = .ok (.iconst (-1), 1) := by decide +kernel
theorem dMO_place_1 : decode cMO_place 1 = .ok (.istore_n 2, 1) := by decide +kernel
theorem dMO_place_2 : decode cMO_place 2 = .ok (.iconst 0, 1) := by decide +kernel
theorem dMO_place_3 : decode cMO_place 3 = .ok (.istore_n 3, 1) := by decide +kernel
theorem dMO_place_4 : decode cMO_place 4 = .ok (.iload_n 3, 1) := by decide +kernel
theorem dMO_place_5 : decode cMO_place 5 = .ok (.aload_n 0, 1) := by decide +kernel
theorem dMO_place_6 : decode cMO_place 6 = .ok (.getfield 92, 3) := by decide +kernel
theorem dMO_place_9 : decode cMO_place 9 = .ok (.if_icmp .ge 25, 3) := by decide +kernel
theorem dMO_place_12 : decode cMO_place 12 = .ok (.aload_n 0, 1) := by decide +kernel
theorem dMO_place_13 : decode cMO_place 13 = .ok (.getfield 34, 3) := by decide +kernel
theorem dMO_place_16 : decode cMO_place 16 = .ok (.iload_n 3, 1) := by decide +kernel
theorem dMO_place_17 : decode cMO_place 17 = .ok (.iaload, 1) := by decide +kernel
theorem dMO_place_18 : decode cMO_place 18 = .ok (.iload_n 1, 1) := by decide +kernel
theorem dMO_place_19 : decode cMO_place 19 = .ok (.if_icmp .ne 7, 3) := by decide +kernel
theorem dMO_place_22 : decode cMO_place 22 = .ok (.iload_n 3, 1) := by decide +kernel
theorem dMO_place_23 : decode cMO_place 23 = .ok (.goto 4, 3) := by decide +kernel
theorem dMO_place_26 : decode cMO_place 26 = .ok (.iload_n 2, 1) := by decide +kernel
theorem dMO_place_27 : decode cMO_place 27 = .ok (.istore_n 2, 1) := by decide +kernel
theorem dMO_place_28 : decode cMO_place 28 = .ok (.iinc 3 1, 3) := by decide +kernel
theorem dMO_place_31 : decode cMO_place 31 = .ok (.goto (-27), 3) := by decide +kernel
theorem dMO_place_34 : decode cMO_place 34 = .ok (.iload_n 2, 1) := by decide +kernel
theorem dMO_place_35 : decode cMO_place 35 = .ok (.ireturn, 1) := by decide +kernel
theorem dMO_ask_0 : decode cMO_ask 0 = .ok (.aload_n 0, 1) := by decide +kernel
theorem dMO_ask_1 : decode cMO_ask 1 = .ok (.iconst 0, 1) := by decide +kernel
theorem dMO_ask_2 : decode cMO_ask 2 = .ok (.putfield 68, 3) := by decide +kernel
theorem dMO_ask_5 : decode cMO_ask 5 = .ok (.iload_n 1, 1) := by decide +kernel
theorem dMO_ask_6 : decode cMO_ask 6 = .ok (.invokestatic 78, 3) := by decide +kernel
theorem dMO_ask_9 : decode cMO_ask 9 = .ok (.ifCond .ne 5, 3) := by decide +kernel
theorem dMO_ask_12 : decode cMO_ask 12 = .ok (.iconst 0, 1) := by decide +kernel
theorem dMO_ask_13 : decode cMO_ask 13 = .ok (.ireturn, 1) := by decide +kernel
theorem dMO_ask_14 : decode cMO_ask 14 = .ok (.aload_n 0, 1) := by decide +kernel
theorem dMO_ask_15 : decode cMO_ask 15 = .ok (.iload_n 1, 1) := by decide +kernel
theorem dMO_ask_16 : decode cMO_ask 16 = .ok (.invokevirtual 95, 3) := by decide +kernel
theorem dMO_ask_19 : decode cMO_ask 19 = .ok (.iconst (-1), 1) := by decide +kernel
theorem dMO_ask_20 : decode cMO_ask 20 = .ok (.if_icmp .ne 23, 3) := by decide +kernel
theorem dMO_ask_23 : decode cMO_ask 23 = .ok (.aload_n 0, 1) := by decide +kernel
theorem dMO_ask_24 : decode cMO_ask 24 = .ok (.getfield 34, 3) := by decide +kernel
theorem dMO_ask_27 : decode cMO_ask 27 = .ok (.aload_n 0, 1) := by decide +kernel
theorem dMO_ask_28 : decode cMO_ask 28 = .ok (.getfield 92, 3) := by decide +kernel
theorem dMO_ask_31 : decode cMO_ask 31 = .ok (.iload_n 1, 1) := by decide +kernel
theorem dMO_ask_32 : decode cMO_ask 32 = .ok (.iastore, 1) := by decide +kernel
theorem dMO_ask_33 : decode cMO_ask 33 = .ok (.aload_n 0, 1) := by decide +kernel
theorem dMO_ask_34 : decode cMO_ask 34 = .ok (.dup, 1) := by decide +kernel
theorem dMO_ask_35 : decode cMO_ask 35 = .ok (.getfield 92, 3) := by decide +kernel
theorem dMO_ask_38 : decode cMO_ask 38 = .ok (.iconst 1, 1) := by decide +kernel
theorem dMO_ask_39 : decode cMO_ask 39 = .ok (.iadd, 1) := by decide +kernel
theorem dMO_ask_40 : decode cMO_ask 40 = .ok (.putfield 92, 3) := by decide +kernel
theorem dMO_ask_43 : decode cMO_ask 43 = .ok (.aload_n 0, 1) := by decide +kernel
theorem dMO_ask_44 : decode cMO_ask 44 = .ok (.getfield 37, 3) := by decide +kernel
theorem dMO_ask_47 : decode cMO_ask 47 = .ok (.iload_n 1, 1) := by decide +kernel
theorem dMO_ask_48 : decode cMO_ask 48 = .ok (.iload_n 2, 1) := by decide +kernel
theorem dMO_ask_49 : decode cMO_ask 49 = .ok (.iastore, 1) := by decide +kernel
theorem dMO_ask_50 : decode cMO_ask 50 = .ok (.aload_n 0, 1) := by decide +kernel
theorem dMO_ask_51 : decode cMO_ask 51 = .ok (.getfield 46, 3) := by decide +kernel
theorem dMO_ask_54 : decode cMO_ask 54 = .ok (.iload_n 1, 1) := by decide +kernel
theorem dMO_ask_55 : decode cMO_ask 55 = .ok (.iload_n 3, 1) := by decide +kernel
theorem dMO_ask_56 : decode cMO_ask 56 = .ok (.bastore, 1) := by decide +kernel
theorem dMO_ask_57 : decode cMO_ask 57 = .ok (.iconst 1, 1) := by decide +kernel
theorem dMO_ask_58 : decode cMO_ask 58 = .ok (.ireturn, 1) := by decide +kernel
theorem dMO_drop_0 : decode cMO_drop 0 = .ok (.aload_n 0, 1) := by decide +kernel
theorem dMO_drop_1 : decode cMO_drop 1 = .ok (.iconst 0, 1) := by decide +kernel
theorem dMO_drop_2 : decode cMO_drop 2 = .ok (.putfield 68, 3) := by decide +kernel
theorem dMO_drop_5 : decode cMO_drop 5 = .ok (.iload_n 1, 1) := by decide +kernel
theorem dMO_drop_6 : decode cMO_drop 6 = .ok (.invokestatic 78, 3) := by decide +kernel
theorem dMO_drop_9 : decode cMO_drop 9 = .ok (.ifCond .eq 11, 3) := by decide +kernel
theorem dMO_drop_12 : decode cMO_drop 12 = .ok (.aload_n 0, 1) := by decide +kernel
theorem dMO_drop_13 : decode cMO_drop 13 = .ok (.iload_n 1, 1) := by decide +kernel
theorem dMO_drop_14 : decode cMO_drop 14 = .ok (.invokevirtual 95, 3) := by decide +kernel
theorem dMO_drop_17 : decode cMO_drop 17 = .ok (.goto 4, 3) := by decide +kernel
theorem dMO_drop_20 : decode cMO_drop 20 = .ok (.iconst (-1), 1) := by decide +kernel
theorem dMO_drop_21 : decode cMO_drop 21 = .ok (.istore_n 2, 1) := by decide +kernel
theorem dMO_drop_22 : decode cMO_drop 22 = .ok (.iload_n 2, 1) := by decide +kernel
theorem dMO_drop_23 : decode cMO_drop 23 = .ok (.iconst (-1), 1) := by decide +kernel
theorem dMO_drop_24 : decode cMO_drop 24 = .ok (.if_icmp .ne 5, 3) := by decide +kernel
theorem dMO_drop_27 : decode cMO_drop 27 = .ok (.iconst 0, 1) := by decide +kernel
theorem dMO_drop_28 : decode cMO_drop 28 = .ok (.ireturn, 1) := by decide +kernel
theorem dMO_drop_29 : decode cMO_drop 29 = .ok (.iload_n 2, 1) := by decide +kernel
theorem dMO_drop_30 : decode cMO_drop 30 = .ok (.istore_n 3, 1) := by decide +kernel
theorem dMO_drop_31 : decode cMO_drop 31 = .ok (.iload_n 3, 1) := by decide +kernel
theorem dMO_drop_32 : decode cMO_drop 32 = .ok (.iconst 1, 1) := by decide +kernel
theorem dMO_drop_33 : decode cMO_drop 33 = .ok (.iadd, 1) := by decide +kernel
theorem dMO_drop_34 : decode cMO_drop 34 = .ok (.aload_n 0, 1) := by decide +kernel
theorem dMO_drop_35 : decode cMO_drop 35 = .ok (.getfield 92, 3) := by decide +kernel
theorem dMO_drop_38 : decode cMO_drop 38 = .ok (.if_icmp .ge 23, 3) := by decide +kernel
theorem dMO_drop_41 : decode cMO_drop 41 = .ok (.aload_n 0, 1) := by decide +kernel
theorem dMO_drop_42 : decode cMO_drop 42 = .ok (.getfield 34, 3) := by decide +kernel
theorem dMO_drop_45 : decode cMO_drop 45 = .ok (.iload_n 3, 1) := by decide +kernel
theorem dMO_drop_46 : decode cMO_drop 46 = .ok (.aload_n 0, 1) := by decide +kernel
theorem dMO_drop_47 : decode cMO_drop 47 = .ok (.getfield 34, 3) := by decide +kernel
theorem dMO_drop_50 : decode cMO_drop 50 = .ok (.iload_n 3, 1) := by decide +kernel
theorem dMO_drop_51 : decode cMO_drop 51 = .ok (.iconst 1, 1) := by decide +kernel
theorem dMO_drop_52 : decode cMO_drop 52 = .ok (.iadd, 1) := by decide +kernel
theorem dMO_drop_53 : decode cMO_drop 53 = .ok (.iaload, 1) := by decide +kernel
theorem dMO_drop_54 : decode cMO_drop 54 = .ok (.iastore, 1) := by decide +kernel
theorem dMO_drop_55 : decode cMO_drop 55 = .ok (.iinc 3 1, 3) := by decide +kernel
theorem dMO_drop_58 : decode cMO_drop 58 = .ok (.goto (-27), 3) := by decide +kernel
theorem dMO_drop_61 : decode cMO_drop 61 = .ok (.aload_n 0, 1) := by decide +kernel
theorem dMO_drop_62 : decode cMO_drop 62 = .ok (.dup, 1) := by decide +kernel
theorem dMO_drop_63 : decode cMO_drop 63 = .ok (.getfield 92, 3) := by decide +kernel
theorem dMO_drop_66 : decode cMO_drop 66 = .ok (.iconst 1, 1) := by decide +kernel
theorem dMO_drop_67 : decode cMO_drop 67 = .ok (.isub, 1) := by decide +kernel
theorem dMO_drop_68 : decode cMO_drop 68 = .ok (.putfield 92, 3) := by decide +kernel
theorem dMO_drop_71 : decode cMO_drop 71 = .ok (.iconst 1, 1) := by decide +kernel
theorem dMO_drop_72 : decode cMO_drop 72 = .ok (.ireturn, 1) := by decide +kernel
theorem dMO_force_0 : decode cMO_force 0 = .ok (.aload_n 0, 1) := by decide +kernel
theorem dMO_force_1 : decode cMO_force 1 = .ok (.iconst 0, 1) := by decide +kernel
theorem dMO_force_2 : decode cMO_force 2 = .ok (.putfield 68, 3) := by decide +kernel
theorem dMO_force_5 : decode cMO_force 5 = .ok (.iload_n 1, 1) := by decide +kernel
theorem dMO_force_6 : decode cMO_force 6 = .ok (.iconst (-1), 1) := by decide +kernel
theorem dMO_force_7 : decode cMO_force 7 = .ok (.if_icmp .ne 13, 3) := by decide +kernel
theorem dMO_force_10 : decode cMO_force 10 = .ok (.iload_n 2, 1) := by decide +kernel
theorem dMO_force_11 : decode cMO_force 11 = .ok (.invokestatic 78, 3) := by decide +kernel
theorem dMO_force_14 : decode cMO_force 14 = .ok (.ifCond .ne 16, 3) := by decide +kernel
theorem dMO_force_17 : decode cMO_force 17 = .ok (.goto 11, 3) := by decide +kernel
theorem dMO_force_20 : decode cMO_force 20 = .ok (.aload_n 0, 1) := by decide +kernel
theorem dMO_force_21 : decode cMO_force 21 = .ok (.iload_n 1, 1) := by decide +kernel
theorem dMO_force_22 : decode cMO_force 22 = .ok (.invokevirtual 82, 3) := by decide +kernel
theorem dMO_force_25 : decode cMO_force 25 = .ok (.ifCond .ne 5, 3) := by decide +kernel
theorem dMO_force_28 : decode cMO_force 28 = .ok (.iconst 0, 1) := by decide +kernel
theorem dMO_force_29 : decode cMO_force 29 = .ok (.ireturn, 1) := by decide +kernel
theorem dMO_force_30 : decode cMO_force 30 = .ok (.aload_n 0, 1) := by decide +kernel
theorem dMO_force_31 : decode cMO_force 31 = .ok (.getfield 40, 3) := by decide +kernel
theorem dMO_force_34 : decode cMO_force 34 = .ok (.iload_n 1, 1) := by decide +kernel
theorem dMO_force_35 : decode cMO_force 35 = .ok (.iconst (-1), 1) := by decide +kernel
theorem dMO_force_36 : decode cMO_force 36 = .ok (.if_icmp .ne 7, 3) := by decide +kernel
theorem dMO_force_39 : decode cMO_force 39 = .ok (.iload_n 2, 1) := by decide +kernel
theorem dMO_force_40 : decode cMO_force 40 = .ok (.goto 9, 3) := by decide +kernel
theorem dMO_force_43 : decode cMO_force 43 = .ok (.aload_n 0, 1) := by decide +kernel
theorem dMO_force_44 : decode cMO_force 44 = .ok (.getfield 13, 3) := by decide +kernel
theorem dMO_force_47 : decode cMO_force 47 = .ok (.iload_n 1, 1) := by decide +kernel
theorem dMO_force_48 : decode cMO_force 48 = .ok (.iaload, 1) := by decide +kernel
theorem dMO_force_49 : decode cMO_force 49 = .ok (.iload_n 1, 1) := by decide +kernel
theorem dMO_force_50 : decode cMO_force 50 = .ok (.iastore, 1) := by decide +kernel
theorem dMO_force_51 : decode cMO_force 51 = .ok (.iconst 1, 1) := by decide +kernel
theorem dMO_force_52 : decode cMO_force 52 = .ok (.ireturn, 1) := by decide +kernel
theorem dMO_lacking_0 : decode cMO_lacking 0 = .ok (.iconst 0, 1) := by decide +kernel
theorem dMO_lacking_1 : decode cMO_lacking 1 = .ok (.istore_n 3, 1) := by decide +kernel
theorem dMO_lacking_2 : decode cMO_lacking 2 = .ok (.iload_n 3, 1) := by decide +kernel
theorem dMO_lacking_3 : decode cMO_lacking 3 = .ok (.bipush 32, 2) := by decide +kernel
theorem dMO_lacking_5 : decode cMO_lacking 5 = .ok (.if_icmp .ge 33, 3) := by decide +kernel
theorem dMO_lacking_8 : decode cMO_lacking 8 = .ok (.iload_n 1, 1) := by decide +kernel
theorem dMO_lacking_9 : decode cMO_lacking 9 = .ok (.iload_n 3, 1) := by decide +kernel
theorem dMO_lacking_10 : decode cMO_lacking 10 = .ok (.ishr, 1) := by decide +kernel
theorem dMO_lacking_11 : decode cMO_lacking 11 = .ok (.iconst 1, 1) := by decide +kernel
theorem dMO_lacking_12 : decode cMO_lacking 12 = .ok (.iand, 1) := by decide +kernel
theorem dMO_lacking_13 : decode cMO_lacking 13 = .ok (.iconst 1, 1) := by decide +kernel
theorem dMO_lacking_14 : decode cMO_lacking 14 = .ok (.if_icmp .ne 18, 3) := by decide +kernel
theorem dMO_lacking_17 : decode cMO_lacking 17 = .ok (.aload_n 0, 1) := by decide +kernel
theorem dMO_lacking_18 : decode cMO_lacking 18 = .ok (.getfield 7, 3) := by decide +kernel
theorem dMO_lacking_21 : decode cMO_lacking 21 = .ok (.iload_n 2, 1) := by decide +kernel
theorem dMO_lacking_22 : decode cMO_lacking 22 = .ok (.iaload, 1) := by decide +kernel
theorem dMO_lacking_23 : decode cMO_lacking 23 = .ok (.iload_n 3, 1) := by decide +kernel
theorem dMO_lacking_24 : decode cMO_lacking 24 = .ok (.ishr, 1) := by decide +kernel
theorem dMO_lacking_25 : decode cMO_lacking 25 = .ok (.iconst 1, 1) := by decide +kernel
theorem dMO_lacking_26 : decode cMO_lacking 26 = .ok (.iand, 1) := by decide +kernel
theorem dMO_lacking_27 : decode cMO_lacking 27 = .ok (.ifCond .ne 5, 3) := by decide +kernel
theorem dMO_lacking_30 : decode cMO_lacking 30 = .ok (.iload_n 3, 1) := by decide +kernel
theorem dMO_lacking_31 : decode cMO_lacking 31 = .ok (.ireturn, 1) := by decide +kernel
theorem dMO_lacking_32 : decode cMO_lacking 32 = .ok (.iinc 3 1, 3) := by decide +kernel
theorem dMO_lacking_35 : decode cMO_lacking 35 = .ok (.goto (-33), 3) := by decide +kernel
theorem dMO_lacking_38 : decode cMO_lacking 38 = .ok (.iconst (-1), 1) := by decide +kernel
theorem dMO_lacking_39 : decode cMO_lacking 39 = .ok (.ireturn, 1) := by decide +kernel
theorem dMO_runsOn_0 : decode cMO_runsOn 0 = .ok (.aload_n 0, 1) := by decide +kernel
theorem dMO_runsOn_1 : decode cMO_runsOn 1 = .ok (.aload_n 0, 1) := by decide +kernel
theorem dMO_runsOn_2 : decode cMO_runsOn 2 = .ok (.getfield 16, 3) := by decide +kernel
theorem dMO_runsOn_5 : decode cMO_runsOn 5 = .ok (.iload_n 1, 1) := by decide +kernel
theorem dMO_runsOn_6 : decode cMO_runsOn 6 = .ok (.iaload, 1) := by decide +kernel
theorem dMO_runsOn_7 : decode cMO_runsOn 7 = .ok (.iload_n 2, 1) := by decide +kernel
theorem dMO_runsOn_8 : decode cMO_runsOn 8 = .ok (.invokevirtual 99, 3) := by decide +kernel
theorem dMO_runsOn_11 : decode cMO_runsOn 11 = .ok (.iconst (-1), 1) := by decide +kernel
theorem dMO_runsOn_12 : decode cMO_runsOn 12 = .ok (.if_icmp .ne 7, 3) := by decide +kernel
theorem dMO_runsOn_15 : decode cMO_runsOn 15 = .ok (.iconst 1, 1) := by decide +kernel
theorem dMO_runsOn_16 : decode cMO_runsOn 16 = .ok (.goto 4, 3) := by decide +kernel
theorem dMO_runsOn_19 : decode cMO_runsOn 19 = .ok (.iconst 0, 1) := by decide +kernel
theorem dMO_runsOn_20 : decode cMO_runsOn 20 = .ok (.ireturn, 1) := by decide +kernel
theorem dMO_makesFor_0 : decode cMO_makesFor 0 = .ok (.aload_n 0, 1) := by decide +kernel
theorem dMO_makesFor_1 : decode cMO_makesFor 1 = .ok (.aload_n 0, 1) := by decide +kernel
theorem dMO_makesFor_2 : decode cMO_makesFor 2 = .ok (.getfield 19, 3) := by decide +kernel
theorem dMO_makesFor_5 : decode cMO_makesFor 5 = .ok (.iload_n 1, 1) := by decide +kernel
theorem dMO_makesFor_6 : decode cMO_makesFor 6 = .ok (.iaload, 1) := by decide +kernel
theorem dMO_makesFor_7 : decode cMO_makesFor 7 = .ok (.iload_n 2, 1) := by decide +kernel
theorem dMO_makesFor_8 : decode cMO_makesFor 8 = .ok (.invokevirtual 99, 3) := by decide +kernel
theorem dMO_makesFor_11 : decode cMO_makesFor 11 = .ok (.iconst (-1), 1) := by decide +kernel
theorem dMO_makesFor_12 : decode cMO_makesFor 12 = .ok (.if_icmp .ne 7, 3) := by decide +kernel
theorem dMO_makesFor_15 : decode cMO_makesFor 15 = .ok (.iconst 1, 1) := by decide +kernel
theorem dMO_makesFor_16 : decode cMO_makesFor 16 = .ok (.goto 4, 3) := by decide +kernel
theorem dMO_makesFor_19 : decode cMO_makesFor 19 = .ok (.iconst 0, 1) := by decide +kernel
theorem dMO_makesFor_20 : decode cMO_makesFor 20 = .ok (.ireturn, 1) := by decide +kernel
theorem dMO_at_0 : decode cMO_at 0 = .ok (.bipush 6, 2) := by decide +kernel
theorem dMO_at_2 : decode cMO_at 2 = .ok (.iload_n 0, 1) := by decide +kernel
theorem dMO_at_3 : decode cMO_at 3 = .ok (.imul, 1) := by decide +kernel
theorem dMO_at_4 : decode cMO_at 4 = .ok (.iload_n 1, 1) := by decide +kernel
theorem dMO_at_5 : decode cMO_at 5 = .ok (.iadd, 1) := by decide +kernel
theorem dMO_at_6 : decode cMO_at 6 = .ok (.ireturn, 1) := by decide +kernel
theorem dMO_isThere_0 : decode cMO_isThere 0 = .ok (.iconst 0, 1) := by decide +kernel
theorem dMO_isThere_1 : decode cMO_isThere 1 = .ok (.istore_n 3, 1) := by decide +kernel
theorem dMO_isThere_2 : decode cMO_isThere 2 = .ok (.iconst 0, 1) := by decide +kernel
theorem dMO_isThere_3 : decode cMO_isThere 3 = .ok (.istore 4, 2) := by decide +kernel
theorem dMO_isThere_5 : decode cMO_isThere 5 = .ok (.iload 4, 2) := by decide +kernel
theorem dMO_isThere_7 : decode cMO_isThere 7 = .ok (.aload_n 0, 1) := by decide +kernel
theorem dMO_isThere_8 : decode cMO_isThere 8 = .ok (.getfield 75, 3) := by decide +kernel
theorem dMO_isThere_11 : decode cMO_isThere 11 = .ok (.if_icmp .ge 80, 3) := by decide +kernel
theorem dMO_isThere_14 : decode cMO_isThere 14 = .ok (.iload_n 3, 1) := by decide +kernel
theorem dMO_isThere_15 : decode cMO_isThere 15 = .ok (.ifCond .ne 76, 3) := by decide +kernel
theorem dMO_isThere_18 : decode cMO_isThere 18 = .ok (.aload_n 0, 1) := by decide +kernel
theorem dMO_isThere_19 : decode cMO_isThere 19 = .ok (.getfield 13, 3) := by decide +kernel
theorem dMO_isThere_22 : decode cMO_isThere 22 = .ok (.iload 4, 2) := by decide +kernel
theorem dMO_isThere_24 : decode cMO_isThere 24 = .ok (.iaload, 1) := by decide +kernel
theorem dMO_isThere_25 : decode cMO_isThere 25 = .ok (.iload_n 1, 1) := by decide +kernel
theorem dMO_isThere_26 : decode cMO_isThere 26 = .ok (.if_icmp .ne 59, 3) := by decide +kernel
theorem dMO_isThere_29 : decode cMO_isThere 29 = .ok (.aload_n 0, 1) := by decide +kernel
theorem dMO_isThere_30 : decode cMO_isThere 30 = .ok (.iload 4, 2) := by decide +kernel
theorem dMO_isThere_32 : decode cMO_isThere 32 = .ok (.iload_n 2, 1) := by decide +kernel
theorem dMO_isThere_33 : decode cMO_isThere 33 = .ok (.invokevirtual 103, 3) := by decide +kernel
theorem dMO_isThere_36 : decode cMO_isThere 36 = .ok (.ifCond .ne 6, 3) := by decide +kernel
theorem dMO_isThere_39 : decode cMO_isThere 39 = .ok (.goto 46, 3) := by decide +kernel
theorem dMO_isThere_42 : decode cMO_isThere 42 = .ok (.iconst 0, 1) := by decide +kernel
theorem dMO_isThere_43 : decode cMO_isThere 43 = .ok (.istore 5, 2) := by decide +kernel
theorem dMO_isThere_45 : decode cMO_isThere 45 = .ok (.iload 5, 2) := by decide +kernel
theorem dMO_isThere_47 : decode cMO_isThere 47 = .ok (.aload_n 0, 1) := by decide +kernel
theorem dMO_isThere_48 : decode cMO_isThere 48 = .ok (.getfield 72, 3) := by decide +kernel
theorem dMO_isThere_51 : decode cMO_isThere 51 = .ok (.if_icmp .ge 34, 3) := by decide +kernel
theorem dMO_isThere_54 : decode cMO_isThere 54 = .ok (.iload_n 3, 1) := by decide +kernel
theorem dMO_isThere_55 : decode cMO_isThere 55 = .ok (.ifCond .ne 18, 3) := by decide +kernel
theorem dMO_isThere_58 : decode cMO_isThere 58 = .ok (.aload_n 0, 1) := by decide +kernel
theorem dMO_isThere_59 : decode cMO_isThere 59 = .ok (.getfield 50, 3) := by decide +kernel
theorem dMO_isThere_62 : decode cMO_isThere 62 = .ok (.iload 4, 2) := by decide +kernel
theorem dMO_isThere_64 : decode cMO_isThere 64 = .ok (.iload 5, 2) := by decide +kernel
theorem dMO_isThere_66 : decode cMO_isThere 66 = .ok (.invokestatic 106, 3) := by decide +kernel
theorem dMO_isThere_69 : decode cMO_isThere 69 = .ok (.baload, 1) := by decide +kernel
theorem dMO_isThere_70 : decode cMO_isThere 70 = .ok (.ifCond .eq 7, 3) := by decide +kernel
theorem dMO_isThere_73 : decode cMO_isThere 73 = .ok (.iconst 1, 1) := by decide +kernel
theorem dMO_isThere_74 : decode cMO_isThere 74 = .ok (.goto 4, 3) := by decide +kernel
theorem dMO_isThere_77 : decode cMO_isThere 77 = .ok (.iconst 0, 1) := by decide +kernel
theorem dMO_isThere_78 : decode cMO_isThere 78 = .ok (.istore_n 3, 1) := by decide +kernel
theorem dMO_isThere_79 : decode cMO_isThere 79 = .ok (.iinc 5 1, 3) := by decide +kernel
theorem dMO_isThere_82 : decode cMO_isThere 82 = .ok (.goto (-37), 3) := by decide +kernel
theorem dMO_isThere_85 : decode cMO_isThere 85 = .ok (.iinc 4 1, 3) := by decide +kernel
theorem dMO_isThere_88 : decode cMO_isThere 88 = .ok (.goto (-83), 3) := by decide +kernel
theorem dMO_isThere_91 : decode cMO_isThere 91 = .ok (.iload_n 3, 1) := by decide +kernel
theorem dMO_isThere_92 : decode cMO_isThere 92 = .ok (.ireturn, 1) := by decide +kernel
theorem dMO_missing_0 : decode cMO_missing 0 = .ok (.iconst 0, 1) := by decide +kernel
theorem dMO_missing_1 : decode cMO_missing 1 = .ok (.istore_n 3, 1) := by decide +kernel
theorem dMO_missing_2 : decode cMO_missing 2 = .ok (.iload_n 3, 1) := by decide +kernel
theorem dMO_missing_3 : decode cMO_missing 3 = .ok (.bipush 8, 2) := by decide +kernel
theorem dMO_missing_5 : decode cMO_missing 5 = .ok (.if_icmp .ge 29, 3) := by decide +kernel
theorem dMO_missing_8 : decode cMO_missing 8 = .ok (.aload_n 0, 1) := by decide +kernel
theorem dMO_missing_9 : decode cMO_missing 9 = .ok (.iload_n 1, 1) := by decide +kernel
theorem dMO_missing_10 : decode cMO_missing 10 = .ok (.iload_n 3, 1) := by decide +kernel
theorem dMO_missing_11 : decode cMO_missing 11 = .ok (.invokevirtual 88, 3) := by decide +kernel
theorem dMO_missing_14 : decode cMO_missing 14 = .ok (.ifCond .eq 14, 3) := by decide +kernel
theorem dMO_missing_17 : decode cMO_missing 17 = .ok (.aload_n 0, 1) := by decide +kernel
theorem dMO_missing_18 : decode cMO_missing 18 = .ok (.iload_n 3, 1) := by decide +kernel
theorem dMO_missing_19 : decode cMO_missing 19 = .ok (.iload_n 2, 1) := by decide +kernel
theorem dMO_missing_20 : decode cMO_missing 20 = .ok (.invokevirtual 109, 3) := by decide +kernel
theorem dMO_missing_23 : decode cMO_missing 23 = .ok (.ifCond .ne 5, 3) := by decide +kernel
theorem dMO_missing_26 : decode cMO_missing 26 = .ok (.iload_n 3, 1) := by decide +kernel
theorem dMO_missing_27 : decode cMO_missing 27 = .ok (.ireturn, 1) := by decide +kernel
theorem dMO_missing_28 : decode cMO_missing 28 = .ok (.iinc 3 1, 3) := by decide +kernel
theorem dMO_missing_31 : decode cMO_missing 31 = .ok (.goto (-29), 3) := by decide +kernel
theorem dMO_missing_34 : decode cMO_missing 34 = .ok (.iconst (-1), 1) := by decide +kernel
theorem dMO_missing_35 : decode cMO_missing 35 = .ok (.ireturn, 1) := by decide +kernel
theorem dMO_build_0 : decode cMO_build 0 = .ok (.iconst 0, 1) := by decide +kernel
theorem dMO_build_1 : decode cMO_build 1 = .ok (.istore_n 1, 1) := by decide +kernel
theorem dMO_build_2 : decode cMO_build 2 = .ok (.iload_n 1, 1) := by decide +kernel
theorem dMO_build_3 : decode cMO_build 3 = .ok (.aload_n 0, 1) := by decide +kernel
theorem dMO_build_4 : decode cMO_build 4 = .ok (.getfield 50, 3) := by decide +kernel
theorem dMO_build_7 : decode cMO_build 7 = .ok (.arraylength, 1) := by decide +kernel
theorem dMO_build_8 : decode cMO_build 8 = .ok (.if_icmp .ge 16, 3) := by decide +kernel
theorem dMO_build_11 : decode cMO_build 11 = .ok (.aload_n 0, 1) := by decide +kernel
theorem dMO_build_12 : decode cMO_build 12 = .ok (.getfield 50, 3) := by decide +kernel
theorem dMO_build_15 : decode cMO_build 15 = .ok (.iload_n 1, 1) := by decide +kernel
theorem dMO_build_16 : decode cMO_build 16 = .ok (.iconst 0, 1) := by decide +kernel
theorem dMO_build_17 : decode cMO_build 17 = .ok (.bastore, 1) := by decide +kernel
theorem dMO_build_18 : decode cMO_build 18 = .ok (.iinc 1 1, 3) := by decide +kernel
theorem dMO_build_21 : decode cMO_build 21 = .ok (.goto (-19), 3) := by decide +kernel
theorem dMO_build_24 : decode cMO_build 24 = .ok (.iconst 1, 1) := by decide +kernel
theorem dMO_build_25 : decode cMO_build 25 = .ok (.istore_n 1, 1) := by decide +kernel
theorem dMO_build_26 : decode cMO_build 26 = .ok (.iload_n 1, 1) := by decide +kernel
theorem dMO_build_27 : decode cMO_build 27 = .ok (.ifCond .eq 88, 3) := by decide +kernel
theorem dMO_build_30 : decode cMO_build 30 = .ok (.iconst 0, 1) := by decide +kernel
theorem dMO_build_31 : decode cMO_build 31 = .ok (.istore_n 1, 1) := by decide +kernel
theorem dMO_build_32 : decode cMO_build 32 = .ok (.iconst 0, 1) := by decide +kernel
theorem dMO_build_33 : decode cMO_build 33 = .ok (.istore_n 2, 1) := by decide +kernel
theorem dMO_build_34 : decode cMO_build 34 = .ok (.iload_n 2, 1) := by decide +kernel
theorem dMO_build_35 : decode cMO_build 35 = .ok (.aload_n 0, 1) := by decide +kernel
theorem dMO_build_36 : decode cMO_build 36 = .ok (.getfield 75, 3) := by decide +kernel
theorem dMO_build_39 : decode cMO_build 39 = .ok (.if_icmp .ge 73, 3) := by decide +kernel
theorem dMO_build_42 : decode cMO_build 42 = .ok (.iconst 0, 1) := by decide +kernel
theorem dMO_build_43 : decode cMO_build 43 = .ok (.istore_n 3, 1) := by decide +kernel
theorem dMO_build_44 : decode cMO_build 44 = .ok (.iload_n 3, 1) := by decide +kernel
theorem dMO_build_45 : decode cMO_build 45 = .ok (.aload_n 0, 1) := by decide +kernel
theorem dMO_build_46 : decode cMO_build 46 = .ok (.getfield 72, 3) := by decide +kernel
theorem dMO_build_49 : decode cMO_build 49 = .ok (.if_icmp .ge 57, 3) := by decide +kernel
theorem dMO_build_52 : decode cMO_build 52 = .ok (.aload_n 0, 1) := by decide +kernel
theorem dMO_build_53 : decode cMO_build 53 = .ok (.getfield 50, 3) := by decide +kernel
theorem dMO_build_56 : decode cMO_build 56 = .ok (.iload_n 2, 1) := by decide +kernel
theorem dMO_build_57 : decode cMO_build 57 = .ok (.iload_n 3, 1) := by decide +kernel
theorem dMO_build_58 : decode cMO_build 58 = .ok (.invokestatic 106, 3) := by decide +kernel
theorem dMO_build_61 : decode cMO_build 61 = .ok (.baload, 1) := by decide +kernel
theorem dMO_build_62 : decode cMO_build 62 = .ok (.ifCond .ne 38, 3) := by decide +kernel
theorem dMO_build_65 : decode cMO_build 65 = .ok (.aload_n 0, 1) := by decide +kernel
theorem dMO_build_66 : decode cMO_build 66 = .ok (.iload_n 2, 1) := by decide +kernel
theorem dMO_build_67 : decode cMO_build 67 = .ok (.iload_n 3, 1) := by decide +kernel
theorem dMO_build_68 : decode cMO_build 68 = .ok (.invokevirtual 112, 3) := by decide +kernel
theorem dMO_build_71 : decode cMO_build 71 = .ok (.ifCond .eq 29, 3) := by decide +kernel
theorem dMO_build_74 : decode cMO_build 74 = .ok (.aload_n 0, 1) := by decide +kernel
theorem dMO_build_75 : decode cMO_build 75 = .ok (.iload_n 2, 1) := by decide +kernel
theorem dMO_build_76 : decode cMO_build 76 = .ok (.iload_n 3, 1) := by decide +kernel
theorem dMO_build_77 : decode cMO_build 77 = .ok (.invokevirtual 115, 3) := by decide +kernel
theorem dMO_build_80 : decode cMO_build 80 = .ok (.iconst (-1), 1) := by decide +kernel
theorem dMO_build_81 : decode cMO_build 81 = .ok (.if_icmp .eq 6, 3) := by decide +kernel
theorem dMO_build_84 : decode cMO_build 84 = .ok (.goto 16, 3) := by decide +kernel
theorem dMO_build_87 : decode cMO_build 87 = .ok (.aload_n 0, 1) := by decide +kernel
theorem dMO_build_88 : decode cMO_build 88 = .ok (.getfield 50, 3) := by decide +kernel
theorem dMO_build_91 : decode cMO_build 91 = .ok (.iload_n 2, 1) := by decide +kernel
theorem dMO_build_92 : decode cMO_build 92 = .ok (.iload_n 3, 1) := by decide +kernel
theorem dMO_build_93 : decode cMO_build 93 = .ok (.invokestatic 106, 3) := by decide +kernel
theorem dMO_build_96 : decode cMO_build 96 = .ok (.iconst 1, 1) := by decide +kernel
theorem dMO_build_97 : decode cMO_build 97 = .ok (.bastore, 1) := by decide +kernel
theorem dMO_build_98 : decode cMO_build 98 = .ok (.iconst 1, 1) := by decide +kernel
theorem dMO_build_99 : decode cMO_build 99 = .ok (.istore_n 1, 1) := by decide +kernel
theorem dMO_build_100 : decode cMO_build 100 = .ok (.iinc 3 1, 3) := by decide +kernel
theorem dMO_build_103 : decode cMO_build 103 = .ok (.goto (-59), 3) := by decide +kernel
theorem dMO_build_106 : decode cMO_build 106 = .ok (.iinc 2 1, 3) := by decide +kernel
theorem dMO_build_109 : decode cMO_build 109 = .ok (.goto (-75), 3) := by decide +kernel
theorem dMO_build_112 : decode cMO_build 112 = .ok (.goto (-86), 3) := by decide +kernel
theorem dMO_build_115 : decode cMO_build 115 = .ok (.return_, 1) := by decide +kernel
theorem dMO_built_0 : decode cMO_built 0 = .ok (.aload_n 0, 1) := by decide +kernel
theorem dMO_built_1 : decode cMO_built 1 = .ok (.iconst 0, 1) := by decide +kernel
theorem dMO_built_2 : decode cMO_built 2 = .ok (.putfield 68, 3) := by decide +kernel
theorem dMO_built_5 : decode cMO_built 5 = .ok (.aload_n 0, 1) := by decide +kernel
theorem dMO_built_6 : decode cMO_built 6 = .ok (.iload_n 1, 1) := by decide +kernel
theorem dMO_built_7 : decode cMO_built 7 = .ok (.invokevirtual 82, 3) := by decide +kernel
theorem dMO_built_10 : decode cMO_built 10 = .ok (.ifCond .eq 11, 3) := by decide +kernel
theorem dMO_built_13 : decode cMO_built 13 = .ok (.aload_n 0, 1) := by decide +kernel
theorem dMO_built_14 : decode cMO_built 14 = .ok (.iload_n 2, 1) := by decide +kernel
theorem dMO_built_15 : decode cMO_built 15 = .ok (.invokevirtual 118, 3) := by decide +kernel
theorem dMO_built_18 : decode cMO_built 18 = .ok (.ifCond .ne 5, 3) := by decide +kernel
theorem dMO_built_21 : decode cMO_built 21 = .ok (.iconst 0, 1) := by decide +kernel
theorem dMO_built_22 : decode cMO_built 22 = .ok (.ireturn, 1) := by decide +kernel
theorem dMO_built_23 : decode cMO_built 23 = .ok (.aload_n 0, 1) := by decide +kernel
theorem dMO_built_24 : decode cMO_built 24 = .ok (.invokevirtual 121, 3) := by decide +kernel
theorem dMO_built_27 : decode cMO_built 27 = .ok (.aload_n 0, 1) := by decide +kernel
theorem dMO_built_28 : decode cMO_built 28 = .ok (.getfield 50, 3) := by decide +kernel
theorem dMO_built_31 : decode cMO_built 31 = .ok (.iload_n 1, 1) := by decide +kernel
theorem dMO_built_32 : decode cMO_built 32 = .ok (.iload_n 2, 1) := by decide +kernel
theorem dMO_built_33 : decode cMO_built 33 = .ok (.invokestatic 106, 3) := by decide +kernel
theorem dMO_built_36 : decode cMO_built 36 = .ok (.baload, 1) := by decide +kernel
theorem dMO_built_37 : decode cMO_built 37 = .ok (.ireturn, 1) := by decide +kernel
theorem dMO_why_0 : decode cMO_why 0 = .ok (.aload_n 0, 1) := by decide +kernel
theorem dMO_why_1 : decode cMO_why 1 = .ok (.getfield 40, 3) := by decide +kernel
theorem dMO_why_4 : decode cMO_why 4 = .ok (.aload_n 0, 1) := by decide +kernel
theorem dMO_why_5 : decode cMO_why 5 = .ok (.getfield 13, 3) := by decide +kernel
theorem dMO_why_8 : decode cMO_why 8 = .ok (.iload_n 1, 1) := by decide +kernel
theorem dMO_why_9 : decode cMO_why 9 = .ok (.iaload, 1) := by decide +kernel
theorem dMO_why_10 : decode cMO_why 10 = .ok (.iaload, 1) := by decide +kernel
theorem dMO_why_11 : decode cMO_why 11 = .ok (.iconst (-1), 1) := by decide +kernel
theorem dMO_why_12 : decode cMO_why 12 = .ok (.if_icmp .eq 20, 3) := by decide +kernel
theorem dMO_why_15 : decode cMO_why 15 = .ok (.aload_n 0, 1) := by decide +kernel
theorem dMO_why_16 : decode cMO_why 16 = .ok (.getfield 40, 3) := by decide +kernel
theorem dMO_why_19 : decode cMO_why 19 = .ok (.aload_n 0, 1) := by decide +kernel
theorem dMO_why_20 : decode cMO_why 20 = .ok (.getfield 13, 3) := by decide +kernel
theorem dMO_why_23 : decode cMO_why 23 = .ok (.iload_n 1, 1) := by decide +kernel
theorem dMO_why_24 : decode cMO_why 24 = .ok (.iaload, 1) := by decide +kernel
theorem dMO_why_25 : decode cMO_why 25 = .ok (.iaload, 1) := by decide +kernel
theorem dMO_why_26 : decode cMO_why 26 = .ok (.iload_n 1, 1) := by decide +kernel
theorem dMO_why_27 : decode cMO_why 27 = .ok (.if_icmp .eq 5, 3) := by decide +kernel
theorem dMO_why_30 : decode cMO_why 30 = .ok (.iconst 1, 1) := by decide +kernel
theorem dMO_why_31 : decode cMO_why 31 = .ok (.ireturn, 1) := by decide +kernel
theorem dMO_why_32 : decode cMO_why 32 = .ok (.aload_n 0, 1) := by decide +kernel
theorem dMO_why_33 : decode cMO_why 33 = .ok (.getfield 22, 3) := by decide +kernel
theorem dMO_why_36 : decode cMO_why 36 = .ok (.iload_n 1, 1) := by decide +kernel
theorem dMO_why_37 : decode cMO_why 37 = .ok (.iaload, 1) := by decide +kernel
theorem dMO_why_38 : decode cMO_why 38 = .ok (.aload_n 0, 1) := by decide +kernel
theorem dMO_why_39 : decode cMO_why 39 = .ok (.getfield 37, 3) := by decide +kernel
theorem dMO_why_42 : decode cMO_why 42 = .ok (.aload_n 0, 1) := by decide +kernel
theorem dMO_why_43 : decode cMO_why 43 = .ok (.getfield 13, 3) := by decide +kernel
theorem dMO_why_46 : decode cMO_why 46 = .ok (.iload_n 1, 1) := by decide +kernel
theorem dMO_why_47 : decode cMO_why 47 = .ok (.iaload, 1) := by decide +kernel
theorem dMO_why_48 : decode cMO_why 48 = .ok (.iaload, 1) := by decide +kernel
theorem dMO_why_49 : decode cMO_why 49 = .ok (.if_icmp .ge 5, 3) := by decide +kernel
theorem dMO_why_52 : decode cMO_why 52 = .ok (.iconst 2, 1) := by decide +kernel
theorem dMO_why_53 : decode cMO_why 53 = .ok (.ireturn, 1) := by decide +kernel
theorem dMO_why_54 : decode cMO_why 54 = .ok (.aload_n 0, 1) := by decide +kernel
theorem dMO_why_55 : decode cMO_why 55 = .ok (.iload_n 1, 1) := by decide +kernel
theorem dMO_why_56 : decode cMO_why 56 = .ok (.iload_n 2, 1) := by decide +kernel
theorem dMO_why_57 : decode cMO_why 57 = .ok (.invokevirtual 112, 3) := by decide +kernel
theorem dMO_why_60 : decode cMO_why 60 = .ok (.ifCond .ne 5, 3) := by decide +kernel
theorem dMO_why_63 : decode cMO_why 63 = .ok (.iconst 3, 1) := by decide +kernel
theorem dMO_why_64 : decode cMO_why 64 = .ok (.ireturn, 1) := by decide +kernel
theorem dMO_why_65 : decode cMO_why 65 = .ok (.aload_n 0, 1) := by decide +kernel
theorem dMO_why_66 : decode cMO_why 66 = .ok (.iload_n 1, 1) := by decide +kernel
theorem dMO_why_67 : decode cMO_why 67 = .ok (.iload_n 3, 1) := by decide +kernel
theorem dMO_why_68 : decode cMO_why 68 = .ok (.invokevirtual 103, 3) := by decide +kernel
theorem dMO_why_71 : decode cMO_why 71 = .ok (.ifCond .ne 5, 3) := by decide +kernel
theorem dMO_why_74 : decode cMO_why 74 = .ok (.iconst 4, 1) := by decide +kernel
theorem dMO_why_75 : decode cMO_why 75 = .ok (.ireturn, 1) := by decide +kernel
theorem dMO_why_76 : decode cMO_why 76 = .ok (.aload_n 0, 1) := by decide +kernel
theorem dMO_why_77 : decode cMO_why 77 = .ok (.getfield 50, 3) := by decide +kernel
theorem dMO_why_80 : decode cMO_why 80 = .ok (.iload_n 1, 1) := by decide +kernel
theorem dMO_why_81 : decode cMO_why 81 = .ok (.iload_n 2, 1) := by decide +kernel
theorem dMO_why_82 : decode cMO_why 82 = .ok (.invokestatic 106, 3) := by decide +kernel
theorem dMO_why_85 : decode cMO_why 85 = .ok (.baload, 1) := by decide +kernel
theorem dMO_why_86 : decode cMO_why 86 = .ok (.ifCond .eq 7, 3) := by decide +kernel
theorem dMO_why_89 : decode cMO_why 89 = .ok (.iconst 0, 1) := by decide +kernel
theorem dMO_why_90 : decode cMO_why 90 = .ok (.goto 4, 3) := by decide +kernel
theorem dMO_why_93 : decode cMO_why 93 = .ok (.iconst 5, 1) := by decide +kernel
theorem dMO_why_94 : decode cMO_why 94 = .ok (.ireturn, 1) := by decide +kernel
theorem dMO_tell_0 : decode cMO_tell 0 = .ok (.aload_n 0, 1) := by decide +kernel
theorem dMO_tell_1 : decode cMO_tell 1 = .ok (.getfield 56, 3) := by decide +kernel
theorem dMO_tell_4 : decode cMO_tell 4 = .ok (.aload_n 0, 1) := by decide +kernel
theorem dMO_tell_5 : decode cMO_tell 5 = .ok (.getfield 124, 3) := by decide +kernel
theorem dMO_tell_8 : decode cMO_tell 8 = .ok (.iload_n 2, 1) := by decide +kernel
theorem dMO_tell_9 : decode cMO_tell 9 = .ok (.iastore, 1) := by decide +kernel
theorem dMO_tell_10 : decode cMO_tell 10 = .ok (.aload_n 0, 1) := by decide +kernel
theorem dMO_tell_11 : decode cMO_tell 11 = .ok (.getfield 59, 3) := by decide +kernel
theorem dMO_tell_14 : decode cMO_tell 14 = .ok (.aload_n 0, 1) := by decide +kernel
theorem dMO_tell_15 : decode cMO_tell 15 = .ok (.getfield 124, 3) := by decide +kernel
theorem dMO_tell_18 : decode cMO_tell 18 = .ok (.iload_n 1, 1) := by decide +kernel
theorem dMO_tell_19 : decode cMO_tell 19 = .ok (.iastore, 1) := by decide +kernel
theorem dMO_tell_20 : decode cMO_tell 20 = .ok (.aload_n 0, 1) := by decide +kernel
theorem dMO_tell_21 : decode cMO_tell 21 = .ok (.getfield 62, 3) := by decide +kernel
theorem dMO_tell_24 : decode cMO_tell 24 = .ok (.aload_n 0, 1) := by decide +kernel
theorem dMO_tell_25 : decode cMO_tell 25 = .ok (.getfield 124, 3) := by decide +kernel
theorem dMO_tell_28 : decode cMO_tell 28 = .ok (.iload 4, 2) := by decide +kernel
theorem dMO_tell_30 : decode cMO_tell 30 = .ok (.iastore, 1) := by decide +kernel
theorem dMO_tell_31 : decode cMO_tell 31 = .ok (.aload_n 0, 1) := by decide +kernel
theorem dMO_tell_32 : decode cMO_tell 32 = .ok (.getfield 65, 3) := by decide +kernel
theorem dMO_tell_35 : decode cMO_tell 35 = .ok (.aload_n 0, 1) := by decide +kernel
theorem dMO_tell_36 : decode cMO_tell 36 = .ok (.getfield 124, 3) := by decide +kernel
theorem dMO_tell_39 : decode cMO_tell 39 = .ok (.iload 4, 2) := by decide +kernel
theorem dMO_tell_41 : decode cMO_tell 41 = .ok (.iconst 3, 1) := by decide +kernel
theorem dMO_tell_42 : decode cMO_tell 42 = .ok (.if_icmp .ne 17, 3) := by decide +kernel
theorem dMO_tell_45 : decode cMO_tell 45 = .ok (.aload_n 0, 1) := by decide +kernel
theorem dMO_tell_46 : decode cMO_tell 46 = .ok (.aload_n 0, 1) := by decide +kernel
theorem dMO_tell_47 : decode cMO_tell 47 = .ok (.getfield 16, 3) := by decide +kernel
theorem dMO_tell_50 : decode cMO_tell 50 = .ok (.iload_n 1, 1) := by decide +kernel
theorem dMO_tell_51 : decode cMO_tell 51 = .ok (.iaload, 1) := by decide +kernel
theorem dMO_tell_52 : decode cMO_tell 52 = .ok (.iload_n 2, 1) := by decide +kernel
theorem dMO_tell_53 : decode cMO_tell 53 = .ok (.invokevirtual 99, 3) := by decide +kernel
theorem dMO_tell_56 : decode cMO_tell 56 = .ok (.goto 39, 3) := by decide +kernel
theorem dMO_tell_59 : decode cMO_tell 59 = .ok (.iload 4, 2) := by decide +kernel
theorem dMO_tell_61 : decode cMO_tell 61 = .ok (.iconst 4, 1) := by decide +kernel
theorem dMO_tell_62 : decode cMO_tell 62 = .ok (.if_icmp .ne 17, 3) := by decide +kernel
theorem dMO_tell_65 : decode cMO_tell 65 = .ok (.aload_n 0, 1) := by decide +kernel
theorem dMO_tell_66 : decode cMO_tell 66 = .ok (.aload_n 0, 1) := by decide +kernel
theorem dMO_tell_67 : decode cMO_tell 67 = .ok (.getfield 19, 3) := by decide +kernel
theorem dMO_tell_70 : decode cMO_tell 70 = .ok (.iload_n 1, 1) := by decide +kernel
theorem dMO_tell_71 : decode cMO_tell 71 = .ok (.iaload, 1) := by decide +kernel
theorem dMO_tell_72 : decode cMO_tell 72 = .ok (.iload_n 3, 1) := by decide +kernel
theorem dMO_tell_73 : decode cMO_tell 73 = .ok (.invokevirtual 99, 3) := by decide +kernel
theorem dMO_tell_76 : decode cMO_tell 76 = .ok (.goto 19, 3) := by decide +kernel
theorem dMO_tell_79 : decode cMO_tell 79 = .ok (.iload 4, 2) := by decide +kernel
theorem dMO_tell_81 : decode cMO_tell 81 = .ok (.iconst 5, 1) := by decide +kernel
theorem dMO_tell_82 : decode cMO_tell 82 = .ok (.if_icmp .ne 12, 3) := by decide +kernel
theorem dMO_tell_85 : decode cMO_tell 85 = .ok (.aload_n 0, 1) := by decide +kernel
theorem dMO_tell_86 : decode cMO_tell 86 = .ok (.iload_n 1, 1) := by decide +kernel
theorem dMO_tell_87 : decode cMO_tell 87 = .ok (.iload_n 2, 1) := by decide +kernel
theorem dMO_tell_88 : decode cMO_tell 88 = .ok (.invokevirtual 115, 3) := by decide +kernel
theorem dMO_tell_91 : decode cMO_tell 91 = .ok (.goto 4, 3) := by decide +kernel
theorem dMO_tell_94 : decode cMO_tell 94 = .ok (.iconst (-1), 1) := by decide +kernel
theorem dMO_tell_95 : decode cMO_tell 95 = .ok (.iastore, 1) := by decide +kernel
theorem dMO_tell_96 : decode cMO_tell 96 = .ok (.aload_n 0, 1) := by decide +kernel
theorem dMO_tell_97 : decode cMO_tell 97 = .ok (.dup, 1) := by decide +kernel
theorem dMO_tell_98 : decode cMO_tell 98 = .ok (.getfield 124, 3) := by decide +kernel
theorem dMO_tell_101 : decode cMO_tell 101 = .ok (.iconst 1, 1) := by decide +kernel
theorem dMO_tell_102 : decode cMO_tell 102 = .ok (.iadd, 1) := by decide +kernel
theorem dMO_tell_103 : decode cMO_tell 103 = .ok (.putfield 124, 3) := by decide +kernel
theorem dMO_tell_106 : decode cMO_tell 106 = .ok (.return_, 1) := by decide +kernel
theorem dMO_look_0 : decode cMO_look 0 = .ok (.iconst 0, 1) := by decide +kernel
theorem dMO_look_1 : decode cMO_look 1 = .ok (.istore 4, 2) := by decide +kernel
theorem dMO_look_3 : decode cMO_look 3 = .ok (.iload 4, 2) := by decide +kernel
theorem dMO_look_5 : decode cMO_look 5 = .ok (.aload_n 0, 1) := by decide +kernel
theorem dMO_look_6 : decode cMO_look 6 = .ok (.getfield 75, 3) := by decide +kernel
theorem dMO_look_9 : decode cMO_look 9 = .ok (.if_icmp .ge 60, 3) := by decide +kernel
theorem dMO_look_12 : decode cMO_look 12 = .ok (.aload_n 0, 1) := by decide +kernel
theorem dMO_look_13 : decode cMO_look 13 = .ok (.getfield 25, 3) := by decide +kernel
theorem dMO_look_16 : decode cMO_look 16 = .ok (.iload 4, 2) := by decide +kernel
theorem dMO_look_18 : decode cMO_look 18 = .ok (.iaload, 1) := by decide +kernel
theorem dMO_look_19 : decode cMO_look 19 = .ok (.istore 5, 2) := by decide +kernel
theorem dMO_look_21 : decode cMO_look 21 = .ok (.aload_n 0, 1) := by decide +kernel
theorem dMO_look_22 : decode cMO_look 22 = .ok (.getfield 13, 3) := by decide +kernel
theorem dMO_look_25 : decode cMO_look 25 = .ok (.iload 5, 2) := by decide +kernel
theorem dMO_look_27 : decode cMO_look 27 = .ok (.iaload, 1) := by decide +kernel
theorem dMO_look_28 : decode cMO_look 28 = .ok (.iload_n 1, 1) := by decide +kernel
theorem dMO_look_29 : decode cMO_look 29 = .ok (.if_icmp .eq 6, 3) := by decide +kernel
theorem dMO_look_32 : decode cMO_look 32 = .ok (.goto 31, 3) := by decide +kernel
theorem dMO_look_35 : decode cMO_look 35 = .ok (.aload_n 0, 1) := by decide +kernel
theorem dMO_look_36 : decode cMO_look 36 = .ok (.iload 5, 2) := by decide +kernel
theorem dMO_look_38 : decode cMO_look 38 = .ok (.iload_n 2, 1) := by decide +kernel
theorem dMO_look_39 : decode cMO_look 39 = .ok (.iload_n 3, 1) := by decide +kernel
theorem dMO_look_40 : decode cMO_look 40 = .ok (.invokevirtual 127, 3) := by decide +kernel
theorem dMO_look_43 : decode cMO_look 43 = .ok (.istore 6, 2) := by decide +kernel
theorem dMO_look_45 : decode cMO_look 45 = .ok (.aload_n 0, 1) := by decide +kernel
theorem dMO_look_46 : decode cMO_look 46 = .ok (.iload 5, 2) := by decide +kernel
theorem dMO_look_48 : decode cMO_look 48 = .ok (.iload_n 2, 1) := by decide +kernel
theorem dMO_look_49 : decode cMO_look 49 = .ok (.iload_n 3, 1) := by decide +kernel
theorem dMO_look_50 : decode cMO_look 50 = .ok (.iload 6, 2) := by decide +kernel
theorem dMO_look_52 : decode cMO_look 52 = .ok (.invokevirtual 131, 3) := by decide +kernel
theorem dMO_look_55 : decode cMO_look 55 = .ok (.iload 6, 2) := by decide +kernel
theorem dMO_look_57 : decode cMO_look 57 = .ok (.ifCond .ne 6, 3) := by decide +kernel
theorem dMO_look_60 : decode cMO_look 60 = .ok (.iload 5, 2) := by decide +kernel
theorem dMO_look_62 : decode cMO_look 62 = .ok (.ireturn, 1) := by decide +kernel
theorem dMO_look_63 : decode cMO_look 63 = .ok (.iinc 4 1, 3) := by decide +kernel
theorem dMO_look_66 : decode cMO_look 66 = .ok (.goto (-63), 3) := by decide +kernel
theorem dMO_look_69 : decode cMO_look 69 = .ok (.iconst (-1), 1) := by decide +kernel
theorem dMO_look_70 : decode cMO_look 70 = .ok (.ireturn, 1) := by decide +kernel
theorem dMO_tryOn_0 : decode cMO_tryOn 0 = .ok (.iconst 0, 1) := by decide +kernel
theorem dMO_tryOn_1 : decode cMO_tryOn 1 = .ok (.istore_n 3, 1) := by decide +kernel
theorem dMO_tryOn_2 : decode cMO_tryOn 2 = .ok (.iload_n 3, 1) := by decide +kernel
theorem dMO_tryOn_3 : decode cMO_tryOn 3 = .ok (.bipush 8, 2) := by decide +kernel
theorem dMO_tryOn_5 : decode cMO_tryOn 5 = .ok (.if_icmp .ge 16, 3) := by decide +kernel
theorem dMO_tryOn_8 : decode cMO_tryOn 8 = .ok (.aload_n 0, 1) := by decide +kernel
theorem dMO_tryOn_9 : decode cMO_tryOn 9 = .ok (.getfield 43, 3) := by decide +kernel
theorem dMO_tryOn_12 : decode cMO_tryOn 12 = .ok (.iload_n 3, 1) := by decide +kernel
theorem dMO_tryOn_13 : decode cMO_tryOn 13 = .ok (.iconst (-1), 1) := by decide +kernel
theorem dMO_tryOn_14 : decode cMO_tryOn 14 = .ok (.iastore, 1) := by decide +kernel
theorem dMO_tryOn_15 : decode cMO_tryOn 15 = .ok (.iinc 3 1, 3) := by decide +kernel
theorem dMO_tryOn_18 : decode cMO_tryOn 18 = .ok (.goto (-16), 3) := by decide +kernel
theorem dMO_tryOn_21 : decode cMO_tryOn 21 = .ok (.iconst 0, 1) := by decide +kernel
theorem dMO_tryOn_22 : decode cMO_tryOn 22 = .ok (.istore_n 3, 1) := by decide +kernel
theorem dMO_tryOn_23 : decode cMO_tryOn 23 = .ok (.iload_n 3, 1) := by decide +kernel
theorem dMO_tryOn_24 : decode cMO_tryOn 24 = .ok (.aload_n 0, 1) := by decide +kernel
theorem dMO_tryOn_25 : decode cMO_tryOn 25 = .ok (.getfield 92, 3) := by decide +kernel
theorem dMO_tryOn_28 : decode cMO_tryOn 28 = .ok (.if_icmp .ge 55, 3) := by decide +kernel
theorem dMO_tryOn_31 : decode cMO_tryOn 31 = .ok (.aload_n 0, 1) := by decide +kernel
theorem dMO_tryOn_32 : decode cMO_tryOn 32 = .ok (.getfield 34, 3) := by decide +kernel
theorem dMO_tryOn_35 : decode cMO_tryOn 35 = .ok (.iload_n 3, 1) := by decide +kernel
theorem dMO_tryOn_36 : decode cMO_tryOn 36 = .ok (.iaload, 1) := by decide +kernel
theorem dMO_tryOn_37 : decode cMO_tryOn 37 = .ok (.istore 4, 2) := by decide +kernel
theorem dMO_tryOn_39 : decode cMO_tryOn 39 = .ok (.aload_n 0, 1) := by decide +kernel
theorem dMO_tryOn_40 : decode cMO_tryOn 40 = .ok (.getfield 43, 3) := by decide +kernel
theorem dMO_tryOn_43 : decode cMO_tryOn 43 = .ok (.iload 4, 2) := by decide +kernel
theorem dMO_tryOn_45 : decode cMO_tryOn 45 = .ok (.aload_n 0, 1) := by decide +kernel
theorem dMO_tryOn_46 : decode cMO_tryOn 46 = .ok (.iload 4, 2) := by decide +kernel
theorem dMO_tryOn_48 : decode cMO_tryOn 48 = .ok (.iload_n 1, 1) := by decide +kernel
theorem dMO_tryOn_49 : decode cMO_tryOn 49 = .ok (.iload_n 2, 1) := by decide +kernel
theorem dMO_tryOn_50 : decode cMO_tryOn 50 = .ok (.invokevirtual 135, 3) := by decide +kernel
theorem dMO_tryOn_53 : decode cMO_tryOn 53 = .ok (.iastore, 1) := by decide +kernel
theorem dMO_tryOn_54 : decode cMO_tryOn 54 = .ok (.aload_n 0, 1) := by decide +kernel
theorem dMO_tryOn_55 : decode cMO_tryOn 55 = .ok (.getfield 43, 3) := by decide +kernel
theorem dMO_tryOn_58 : decode cMO_tryOn 58 = .ok (.iload 4, 2) := by decide +kernel
theorem dMO_tryOn_60 : decode cMO_tryOn 60 = .ok (.iaload, 1) := by decide +kernel
theorem dMO_tryOn_61 : decode cMO_tryOn 61 = .ok (.iconst (-1), 1) := by decide +kernel
theorem dMO_tryOn_62 : decode cMO_tryOn 62 = .ok (.if_icmp .ne 15, 3) := by decide +kernel
theorem dMO_tryOn_65 : decode cMO_tryOn 65 = .ok (.aload_n 0, 1) := by decide +kernel
theorem dMO_tryOn_66 : decode cMO_tryOn 66 = .ok (.getfield 46, 3) := by decide +kernel
theorem dMO_tryOn_69 : decode cMO_tryOn 69 = .ok (.iload 4, 2) := by decide +kernel
theorem dMO_tryOn_71 : decode cMO_tryOn 71 = .ok (.baload, 1) := by decide +kernel
theorem dMO_tryOn_72 : decode cMO_tryOn 72 = .ok (.ifCond .eq 5, 3) := by decide +kernel
theorem dMO_tryOn_75 : decode cMO_tryOn 75 = .ok (.iconst 0, 1) := by decide +kernel
theorem dMO_tryOn_76 : decode cMO_tryOn 76 = .ok (.ireturn, 1) := by decide +kernel
theorem dMO_tryOn_77 : decode cMO_tryOn 77 = .ok (.iinc 3 1, 3) := by decide +kernel
theorem dMO_tryOn_80 : decode cMO_tryOn 80 = .ok (.goto (-57), 3) := by decide +kernel
theorem dMO_tryOn_83 : decode cMO_tryOn 83 = .ok (.iconst 1, 1) := by decide +kernel
theorem dMO_tryOn_84 : decode cMO_tryOn 84 = .ok (.ireturn, 1) := by decide +kernel
theorem dMO_choose_0 : decode cMO_choose 0 = .ok (.aload_n 0, 1) := by decide +kernel
theorem dMO_choose_1 : decode cMO_choose 1 = .ok (.iconst 0, 1) := by decide +kernel
theorem dMO_choose_2 : decode cMO_choose 2 = .ok (.putfield 68, 3) := by decide +kernel
theorem dMO_choose_5 : decode cMO_choose 5 = .ok (.aload_n 0, 1) := by decide +kernel
theorem dMO_choose_6 : decode cMO_choose 6 = .ok (.iload_n 1, 1) := by decide +kernel
theorem dMO_choose_7 : decode cMO_choose 7 = .ok (.invokevirtual 118, 3) := by decide +kernel
theorem dMO_choose_10 : decode cMO_choose 10 = .ok (.ifCond .ne 5, 3) := by decide +kernel
theorem dMO_choose_13 : decode cMO_choose 13 = .ok (.iconst (-1), 1) := by decide +kernel
theorem dMO_choose_14 : decode cMO_choose 14 = .ok (.ireturn, 1) := by decide +kernel
theorem dMO_choose_15 : decode cMO_choose 15 = .ok (.aload_n 0, 1) := by decide +kernel
theorem dMO_choose_16 : decode cMO_choose 16 = .ok (.iconst 0, 1) := by decide +kernel
theorem dMO_choose_17 : decode cMO_choose 17 = .ok (.putfield 124, 3) := by decide +kernel
theorem dMO_choose_20 : decode cMO_choose 20 = .ok (.aload_n 0, 1) := by decide +kernel
theorem dMO_choose_21 : decode cMO_choose 21 = .ok (.invokevirtual 121, 3) := by decide +kernel
theorem dMO_choose_24 : decode cMO_choose 24 = .ok (.iconst 0, 1) := by decide +kernel
theorem dMO_choose_25 : decode cMO_choose 25 = .ok (.istore_n 2, 1) := by decide +kernel
theorem dMO_choose_26 : decode cMO_choose 26 = .ok (.iload_n 2, 1) := by decide +kernel
theorem dMO_choose_27 : decode cMO_choose 27 = .ok (.aload_n 0, 1) := by decide +kernel
theorem dMO_choose_28 : decode cMO_choose 28 = .ok (.getfield 72, 3) := by decide +kernel
theorem dMO_choose_31 : decode cMO_choose 31 = .ok (.if_icmp .ge 20, 3) := by decide +kernel
theorem dMO_choose_34 : decode cMO_choose 34 = .ok (.aload_n 0, 1) := by decide +kernel
theorem dMO_choose_35 : decode cMO_choose 35 = .ok (.iload_n 2, 1) := by decide +kernel
theorem dMO_choose_36 : decode cMO_choose 36 = .ok (.iload_n 1, 1) := by decide +kernel
theorem dMO_choose_37 : decode cMO_choose 37 = .ok (.invokevirtual 138, 3) := by decide +kernel
theorem dMO_choose_40 : decode cMO_choose 40 = .ok (.ifCond .eq 5, 3) := by decide +kernel
theorem dMO_choose_43 : decode cMO_choose 43 = .ok (.iload_n 2, 1) := by decide +kernel
theorem dMO_choose_44 : decode cMO_choose 44 = .ok (.ireturn, 1) := by decide +kernel
theorem dMO_choose_45 : decode cMO_choose 45 = .ok (.iinc 2 1, 3) := by decide +kernel
theorem dMO_choose_48 : decode cMO_choose 48 = .ok (.goto (-22), 3) := by decide +kernel
theorem dMO_choose_51 : decode cMO_choose 51 = .ok (.iconst 0, 1) := by decide +kernel
theorem dMO_choose_52 : decode cMO_choose 52 = .ok (.istore_n 2, 1) := by decide +kernel
theorem dMO_choose_53 : decode cMO_choose 53 = .ok (.iload_n 2, 1) := by decide +kernel
theorem dMO_choose_54 : decode cMO_choose 54 = .ok (.bipush 8, 2) := by decide +kernel
theorem dMO_choose_56 : decode cMO_choose 56 = .ok (.if_icmp .ge 16, 3) := by decide +kernel
theorem dMO_choose_59 : decode cMO_choose 59 = .ok (.aload_n 0, 1) := by decide +kernel
theorem dMO_choose_60 : decode cMO_choose 60 = .ok (.getfield 43, 3) := by decide +kernel
theorem dMO_choose_63 : decode cMO_choose 63 = .ok (.iload_n 2, 1) := by decide +kernel
theorem dMO_choose_64 : decode cMO_choose 64 = .ok (.iconst (-1), 1) := by decide +kernel
theorem dMO_choose_65 : decode cMO_choose 65 = .ok (.iastore, 1) := by decide +kernel
theorem dMO_choose_66 : decode cMO_choose 66 = .ok (.iinc 2 1, 3) := by decide +kernel
theorem dMO_choose_69 : decode cMO_choose 69 = .ok (.goto (-16), 3) := by decide +kernel
theorem dMO_choose_72 : decode cMO_choose 72 = .ok (.iconst (-1), 1) := by decide +kernel
theorem dMO_choose_73 : decode cMO_choose 73 = .ok (.ireturn, 1) := by decide +kernel
theorem dMO_chosen_0 : decode cMO_chosen 0 = .ok (.aload_n 0, 1) := by decide +kernel
theorem dMO_chosen_1 : decode cMO_chosen 1 = .ok (.iconst 0, 1) := by decide +kernel
theorem dMO_chosen_2 : decode cMO_chosen 2 = .ok (.putfield 68, 3) := by decide +kernel
theorem dMO_chosen_5 : decode cMO_chosen 5 = .ok (.iload_n 1, 1) := by decide +kernel
theorem dMO_chosen_6 : decode cMO_chosen 6 = .ok (.invokestatic 78, 3) := by decide +kernel
theorem dMO_chosen_9 : decode cMO_chosen 9 = .ok (.ifCond .eq 12, 3) := by decide +kernel
theorem dMO_chosen_12 : decode cMO_chosen 12 = .ok (.aload_n 0, 1) := by decide +kernel
theorem dMO_chosen_13 : decode cMO_chosen 13 = .ok (.getfield 43, 3) := by decide +kernel
theorem dMO_chosen_16 : decode cMO_chosen 16 = .ok (.iload_n 1, 1) := by decide +kernel
theorem dMO_chosen_17 : decode cMO_chosen 17 = .ok (.iaload, 1) := by decide +kernel
theorem dMO_chosen_18 : decode cMO_chosen 18 = .ok (.goto 4, 3) := by decide +kernel
theorem dMO_chosen_21 : decode cMO_chosen 21 = .ok (.iconst (-1), 1) := by decide +kernel
theorem dMO_chosen_22 : decode cMO_chosen 22 = .ok (.ireturn, 1) := by decide +kernel
theorem dMO_rows_0 : decode cMO_rows 0 = .ok (.aload_n 0, 1) := by decide +kernel
theorem dMO_rows_1 : decode cMO_rows 1 = .ok (.iconst 0, 1) := by decide +kernel
theorem dMO_rows_2 : decode cMO_rows 2 = .ok (.putfield 68, 3) := by decide +kernel
theorem dMO_rows_5 : decode cMO_rows 5 = .ok (.aload_n 0, 1) := by decide +kernel
theorem dMO_rows_6 : decode cMO_rows 6 = .ok (.getfield 124, 3) := by decide +kernel
theorem dMO_rows_9 : decode cMO_rows 9 = .ok (.ireturn, 1) := by decide +kernel
theorem dMO_row_0 : decode cMO_row 0 = .ok (.aload_n 0, 1) := by decide +kernel
theorem dMO_row_1 : decode cMO_row 1 = .ok (.iconst 0, 1) := by decide +kernel
theorem dMO_row_2 : decode cMO_row 2 = .ok (.putfield 68, 3) := by decide +kernel
theorem dMO_row_5 : decode cMO_row 5 = .ok (.iload_n 1, 1) := by decide +kernel
theorem dMO_row_6 : decode cMO_row 6 = .ok (.ifCond .lt 11, 3) := by decide +kernel
theorem dMO_row_9 : decode cMO_row 9 = .ok (.iload_n 1, 1) := by decide +kernel
theorem dMO_row_10 : decode cMO_row 10 = .ok (.aload_n 0, 1) := by decide +kernel
theorem dMO_row_11 : decode cMO_row 11 = .ok (.getfield 124, 3) := by decide +kernel
theorem dMO_row_14 : decode cMO_row 14 = .ok (.if_icmp .lt 5, 3) := by decide +kernel
theorem dMO_row_17 : decode cMO_row 17 = .ok (.iconst (-1), 1) := by decide +kernel
theorem dMO_row_18 : decode cMO_row 18 = .ok (.ireturn, 1) := by decide +kernel
theorem dMO_row_19 : decode cMO_row 19 = .ok (.iload_n 2, 1) := by decide +kernel
theorem dMO_row_20 : decode cMO_row 20 = .ok (.ifCond .ne 12, 3) := by decide +kernel
theorem dMO_row_23 : decode cMO_row 23 = .ok (.aload_n 0, 1) := by decide +kernel
theorem dMO_row_24 : decode cMO_row 24 = .ok (.getfield 56, 3) := by decide +kernel
theorem dMO_row_27 : decode cMO_row 27 = .ok (.iload_n 1, 1) := by decide +kernel
theorem dMO_row_28 : decode cMO_row 28 = .ok (.iaload, 1) := by decide +kernel
theorem dMO_row_29 : decode cMO_row 29 = .ok (.goto 46, 3) := by decide +kernel
theorem dMO_row_32 : decode cMO_row 32 = .ok (.iload_n 2, 1) := by decide +kernel
theorem dMO_row_33 : decode cMO_row 33 = .ok (.iconst 1, 1) := by decide +kernel
theorem dMO_row_34 : decode cMO_row 34 = .ok (.if_icmp .ne 12, 3) := by decide +kernel
theorem dMO_row_37 : decode cMO_row 37 = .ok (.aload_n 0, 1) := by decide +kernel
theorem dMO_row_38 : decode cMO_row 38 = .ok (.getfield 59, 3) := by decide +kernel
theorem dMO_row_41 : decode cMO_row 41 = .ok (.iload_n 1, 1) := by decide +kernel
theorem dMO_row_42 : decode cMO_row 42 = .ok (.iaload, 1) := by decide +kernel
theorem dMO_row_43 : decode cMO_row 43 = .ok (.goto 32, 3) := by decide +kernel
theorem dMO_row_46 : decode cMO_row 46 = .ok (.iload_n 2, 1) := by decide +kernel
theorem dMO_row_47 : decode cMO_row 47 = .ok (.iconst 2, 1) := by decide +kernel
theorem dMO_row_48 : decode cMO_row 48 = .ok (.if_icmp .ne 12, 3) := by decide +kernel
theorem dMO_row_51 : decode cMO_row 51 = .ok (.aload_n 0, 1) := by decide +kernel
theorem dMO_row_52 : decode cMO_row 52 = .ok (.getfield 62, 3) := by decide +kernel
theorem dMO_row_55 : decode cMO_row 55 = .ok (.iload_n 1, 1) := by decide +kernel
theorem dMO_row_56 : decode cMO_row 56 = .ok (.iaload, 1) := by decide +kernel
theorem dMO_row_57 : decode cMO_row 57 = .ok (.goto 18, 3) := by decide +kernel
theorem dMO_row_60 : decode cMO_row 60 = .ok (.iload_n 2, 1) := by decide +kernel
theorem dMO_row_61 : decode cMO_row 61 = .ok (.iconst 3, 1) := by decide +kernel
theorem dMO_row_62 : decode cMO_row 62 = .ok (.if_icmp .ne 12, 3) := by decide +kernel
theorem dMO_row_65 : decode cMO_row 65 = .ok (.aload_n 0, 1) := by decide +kernel
theorem dMO_row_66 : decode cMO_row 66 = .ok (.getfield 65, 3) := by decide +kernel
theorem dMO_row_69 : decode cMO_row 69 = .ok (.iload_n 1, 1) := by decide +kernel
theorem dMO_row_70 : decode cMO_row 70 = .ok (.iaload, 1) := by decide +kernel
theorem dMO_row_71 : decode cMO_row 71 = .ok (.goto 4, 3) := by decide +kernel
theorem dMO_row_74 : decode cMO_row 74 = .ok (.iconst (-1), 1) := by decide +kernel
theorem dMO_row_75 : decode cMO_row 75 = .ok (.ireturn, 1) := by decide +kernel
theorem dMO_leads_0 : decode cMO_leads 0 = .ok (.iload_n 1, 1) := by decide +kernel
theorem dMO_leads_1 : decode cMO_leads 1 = .ok (.bipush 6, 2) := by decide +kernel
theorem dMO_leads_3 : decode cMO_leads 3 = .ok (.idiv, 1) := by decide +kernel
theorem dMO_leads_4 : decode cMO_leads 4 = .ok (.istore_n 3, 1) := by decide +kernel
theorem dMO_leads_5 : decode cMO_leads 5 = .ok (.iload_n 2, 1) := by decide +kernel
theorem dMO_leads_6 : decode cMO_leads 6 = .ok (.bipush 6, 2) := by decide +kernel
theorem dMO_leads_8 : decode cMO_leads 8 = .ok (.idiv, 1) := by decide +kernel
theorem dMO_leads_9 : decode cMO_leads 9 = .ok (.istore 4, 2) := by decide +kernel
theorem dMO_leads_11 : decode cMO_leads 11 = .ok (.aload_n 0, 1) := by decide +kernel
theorem dMO_leads_12 : decode cMO_leads 12 = .ok (.iload_n 3, 1) := by decide +kernel
theorem dMO_leads_13 : decode cMO_leads 13 = .ok (.iload_n 1, 1) := by decide +kernel
theorem dMO_leads_14 : decode cMO_leads 14 = .ok (.bipush 6, 2) := by decide +kernel
theorem dMO_leads_16 : decode cMO_leads 16 = .ok (.irem, 1) := by decide +kernel
theorem dMO_leads_17 : decode cMO_leads 17 = .ok (.invokevirtual 112, 3) := by decide +kernel
theorem dMO_leads_20 : decode cMO_leads 20 = .ok (.ifCond .eq 48, 3) := by decide +kernel
theorem dMO_leads_23 : decode cMO_leads 23 = .ok (.aload_n 0, 1) := by decide +kernel
theorem dMO_leads_24 : decode cMO_leads 24 = .ok (.iload 4, 2) := by decide +kernel
theorem dMO_leads_26 : decode cMO_leads 26 = .ok (.iload_n 2, 1) := by decide +kernel
theorem dMO_leads_27 : decode cMO_leads 27 = .ok (.bipush 6, 2) := by decide +kernel
theorem dMO_leads_29 : decode cMO_leads 29 = .ok (.irem, 1) := by decide +kernel
theorem dMO_leads_30 : decode cMO_leads 30 = .ok (.invokevirtual 112, 3) := by decide +kernel
theorem dMO_leads_33 : decode cMO_leads 33 = .ok (.ifCond .eq 35, 3) := by decide +kernel
theorem dMO_leads_36 : decode cMO_leads 36 = .ok (.aload_n 0, 1) := by decide +kernel
theorem dMO_leads_37 : decode cMO_leads 37 = .ok (.iload_n 3, 1) := by decide +kernel
theorem dMO_leads_38 : decode cMO_leads 38 = .ok (.aload_n 0, 1) := by decide +kernel
theorem dMO_leads_39 : decode cMO_leads 39 = .ok (.getfield 13, 3) := by decide +kernel
theorem dMO_leads_42 : decode cMO_leads 42 = .ok (.iload 4, 2) := by decide +kernel
theorem dMO_leads_44 : decode cMO_leads 44 = .ok (.iaload, 1) := by decide +kernel
theorem dMO_leads_45 : decode cMO_leads 45 = .ok (.invokevirtual 88, 3) := by decide +kernel
theorem dMO_leads_48 : decode cMO_leads 48 = .ok (.ifCond .eq 20, 3) := by decide +kernel
theorem dMO_leads_51 : decode cMO_leads 51 = .ok (.aload_n 0, 1) := by decide +kernel
theorem dMO_leads_52 : decode cMO_leads 52 = .ok (.iload 4, 2) := by decide +kernel
theorem dMO_leads_54 : decode cMO_leads 54 = .ok (.iload_n 1, 1) := by decide +kernel
theorem dMO_leads_55 : decode cMO_leads 55 = .ok (.bipush 6, 2) := by decide +kernel
theorem dMO_leads_57 : decode cMO_leads 57 = .ok (.irem, 1) := by decide +kernel
theorem dMO_leads_58 : decode cMO_leads 58 = .ok (.invokevirtual 103, 3) := by decide +kernel
theorem dMO_leads_61 : decode cMO_leads 61 = .ok (.ifCond .eq 7, 3) := by decide +kernel
theorem dMO_leads_64 : decode cMO_leads 64 = .ok (.iconst 1, 1) := by decide +kernel
theorem dMO_leads_65 : decode cMO_leads 65 = .ok (.goto 4, 3) := by decide +kernel
theorem dMO_leads_68 : decode cMO_leads 68 = .ok (.iconst 0, 1) := by decide +kernel
theorem dMO_leads_69 : decode cMO_leads 69 = .ok (.ireturn, 1) := by decide +kernel
theorem dMO_isPlace_0 : decode cMO_isPlace 0 = .ok (.iload_n 1, 1) := by decide +kernel
theorem dMO_isPlace_1 : decode cMO_isPlace 1 = .ok (.bipush 6, 2) := by decide +kernel
theorem dMO_isPlace_3 : decode cMO_isPlace 3 = .ok (.idiv, 1) := by decide +kernel
theorem dMO_isPlace_4 : decode cMO_isPlace 4 = .ok (.aload_n 0, 1) := by decide +kernel
theorem dMO_isPlace_5 : decode cMO_isPlace 5 = .ok (.getfield 75, 3) := by decide +kernel
theorem dMO_isPlace_8 : decode cMO_isPlace 8 = .ok (.if_icmp .ge 18, 3) := by decide +kernel
theorem dMO_isPlace_11 : decode cMO_isPlace 11 = .ok (.iload_n 1, 1) := by decide +kernel
theorem dMO_isPlace_12 : decode cMO_isPlace 12 = .ok (.bipush 6, 2) := by decide +kernel
theorem dMO_isPlace_14 : decode cMO_isPlace 14 = .ok (.irem, 1) := by decide +kernel
theorem dMO_isPlace_15 : decode cMO_isPlace 15 = .ok (.aload_n 0, 1) := by decide +kernel
theorem dMO_isPlace_16 : decode cMO_isPlace 16 = .ok (.getfield 72, 3) := by decide +kernel
theorem dMO_isPlace_19 : decode cMO_isPlace 19 = .ok (.if_icmp .ge 7, 3) := by decide +kernel
theorem dMO_isPlace_22 : decode cMO_isPlace 22 = .ok (.iconst 1, 1) := by decide +kernel
theorem dMO_isPlace_23 : decode cMO_isPlace 23 = .ok (.goto 4, 3) := by decide +kernel
theorem dMO_isPlace_26 : decode cMO_isPlace 26 = .ok (.iconst 0, 1) := by decide +kernel
theorem dMO_isPlace_27 : decode cMO_isPlace 27 = .ok (.ireturn, 1) := by decide +kernel
theorem dMO_comesBack_0 : decode cMO_comesBack 0 = .ok (.iconst 0, 1) := by decide +kernel
theorem dMO_comesBack_1 : decode cMO_comesBack 1 = .ok (.istore_n 2, 1) := by decide +kernel
theorem dMO_comesBack_2 : decode cMO_comesBack 2 = .ok (.iload_n 2, 1) := by decide +kernel
theorem dMO_comesBack_3 : decode cMO_comesBack 3 = .ok (.aload_n 0, 1) := by decide +kernel
theorem dMO_comesBack_4 : decode cMO_comesBack 4 = .ok (.getfield 53, 3) := by decide +kernel
theorem dMO_comesBack_7 : decode cMO_comesBack 7 = .ok (.arraylength, 1) := by decide +kernel
theorem dMO_comesBack_8 : decode cMO_comesBack 8 = .ok (.if_icmp .ge 16, 3) := by decide +kernel
theorem dMO_comesBack_11 : decode cMO_comesBack 11 = .ok (.aload_n 0, 1) := by decide +kernel
theorem dMO_comesBack_12 : decode cMO_comesBack 12 = .ok (.getfield 53, 3) := by decide +kernel
theorem dMO_comesBack_15 : decode cMO_comesBack 15 = .ok (.iload_n 2, 1) := by decide +kernel
theorem dMO_comesBack_16 : decode cMO_comesBack 16 = .ok (.iconst 0, 1) := by decide +kernel
theorem dMO_comesBack_17 : decode cMO_comesBack 17 = .ok (.bastore, 1) := by decide +kernel
theorem dMO_comesBack_18 : decode cMO_comesBack 18 = .ok (.iinc 2 1, 3) := by decide +kernel
theorem dMO_comesBack_21 : decode cMO_comesBack 21 = .ok (.goto (-19), 3) := by decide +kernel
theorem dMO_comesBack_24 : decode cMO_comesBack 24 = .ok (.iconst 1, 1) := by decide +kernel
theorem dMO_comesBack_25 : decode cMO_comesBack 25 = .ok (.istore_n 2, 1) := by decide +kernel
theorem dMO_comesBack_26 : decode cMO_comesBack 26 = .ok (.iload_n 2, 1) := by decide +kernel
theorem dMO_comesBack_27 : decode cMO_comesBack 27 = .ok (.ifCond .eq 130, 3) := by decide +kernel
theorem dMO_comesBack_30 : decode cMO_comesBack 30 = .ok (.aload_n 0, 1) := by decide +kernel
theorem dMO_comesBack_31 : decode cMO_comesBack 31 = .ok (.getfield 53, 3) := by decide +kernel
theorem dMO_comesBack_34 : decode cMO_comesBack 34 = .ok (.iload_n 1, 1) := by decide +kernel
theorem dMO_comesBack_35 : decode cMO_comesBack 35 = .ok (.baload, 1) := by decide +kernel
theorem dMO_comesBack_36 : decode cMO_comesBack 36 = .ok (.ifCond .ne 121, 3) := by decide +kernel
theorem dMO_comesBack_39 : decode cMO_comesBack 39 = .ok (.iconst 0, 1) := by decide +kernel
theorem dMO_comesBack_40 : decode cMO_comesBack 40 = .ok (.istore_n 2, 1) := by decide +kernel
theorem dMO_comesBack_41 : decode cMO_comesBack 41 = .ok (.iconst 0, 1) := by decide +kernel
theorem dMO_comesBack_42 : decode cMO_comesBack 42 = .ok (.istore_n 3, 1) := by decide +kernel
theorem dMO_comesBack_43 : decode cMO_comesBack 43 = .ok (.iload_n 3, 1) := by decide +kernel
theorem dMO_comesBack_44 : decode cMO_comesBack 44 = .ok (.aload_n 0, 1) := by decide +kernel
theorem dMO_comesBack_45 : decode cMO_comesBack 45 = .ok (.getfield 53, 3) := by decide +kernel
theorem dMO_comesBack_48 : decode cMO_comesBack 48 = .ok (.arraylength, 1) := by decide +kernel
theorem dMO_comesBack_49 : decode cMO_comesBack 49 = .ok (.if_icmp .ge 105, 3) := by decide +kernel
theorem dMO_comesBack_52 : decode cMO_comesBack 52 = .ok (.iload_n 3, 1) := by decide +kernel
theorem dMO_comesBack_53 : decode cMO_comesBack 53 = .ok (.iload_n 1, 1) := by decide +kernel
theorem dMO_comesBack_54 : decode cMO_comesBack 54 = .ok (.if_icmp .eq 12, 3) := by decide +kernel
theorem dMO_comesBack_57 : decode cMO_comesBack 57 = .ok (.aload_n 0, 1) := by decide +kernel
theorem dMO_comesBack_58 : decode cMO_comesBack 58 = .ok (.getfield 53, 3) := by decide +kernel
theorem dMO_comesBack_61 : decode cMO_comesBack 61 = .ok (.iload_n 3, 1) := by decide +kernel
theorem dMO_comesBack_62 : decode cMO_comesBack 62 = .ok (.baload, 1) := by decide +kernel
theorem dMO_comesBack_63 : decode cMO_comesBack 63 = .ok (.ifCond .eq 85, 3) := by decide +kernel
theorem dMO_comesBack_66 : decode cMO_comesBack 66 = .ok (.aload_n 0, 1) := by decide +kernel
theorem dMO_comesBack_67 : decode cMO_comesBack 67 = .ok (.iload_n 3, 1) := by decide +kernel
theorem dMO_comesBack_68 : decode cMO_comesBack 68 = .ok (.invokevirtual 141, 3) := by decide +kernel
theorem dMO_comesBack_71 : decode cMO_comesBack 71 = .ok (.ifCond .ne 6, 3) := by decide +kernel
theorem dMO_comesBack_74 : decode cMO_comesBack 74 = .ok (.goto 74, 3) := by decide +kernel
theorem dMO_comesBack_77 : decode cMO_comesBack 77 = .ok (.iconst 0, 1) := by decide +kernel
theorem dMO_comesBack_78 : decode cMO_comesBack 78 = .ok (.istore 4, 2) := by decide +kernel
theorem dMO_comesBack_80 : decode cMO_comesBack 80 = .ok (.iload 4, 2) := by decide +kernel
theorem dMO_comesBack_82 : decode cMO_comesBack 82 = .ok (.aload_n 0, 1) := by decide +kernel
theorem dMO_comesBack_83 : decode cMO_comesBack 83 = .ok (.getfield 53, 3) := by decide +kernel
theorem dMO_comesBack_86 : decode cMO_comesBack 86 = .ok (.arraylength, 1) := by decide +kernel
theorem dMO_comesBack_87 : decode cMO_comesBack 87 = .ok (.if_icmp .ge 61, 3) := by decide +kernel
theorem dMO_comesBack_90 : decode cMO_comesBack 90 = .ok (.aload_n 0, 1) := by decide +kernel
theorem dMO_comesBack_91 : decode cMO_comesBack 91 = .ok (.getfield 53, 3) := by decide +kernel
theorem dMO_comesBack_94 : decode cMO_comesBack 94 = .ok (.iload 4, 2) := by decide +kernel
theorem dMO_comesBack_96 : decode cMO_comesBack 96 = .ok (.baload, 1) := by decide +kernel
theorem dMO_comesBack_97 : decode cMO_comesBack 97 = .ok (.ifCond .ne 45, 3) := by decide +kernel
theorem dMO_comesBack_100 : decode cMO_comesBack 100 = .ok (.aload_n 0, 1) := by decide +kernel
theorem dMO_comesBack_101 : decode cMO_comesBack 101 = .ok (.iload 4, 2) := by decide +kernel
theorem dMO_comesBack_103 : decode cMO_comesBack 103 = .ok (.invokevirtual 141, 3) := by decide +kernel
theorem dMO_comesBack_106 : decode cMO_comesBack 106 = .ok (.ifCond .eq 36, 3) := by decide +kernel
theorem dMO_comesBack_109 : decode cMO_comesBack 109 = .ok (.aload_n 0, 1) := by decide +kernel
theorem dMO_comesBack_110 : decode cMO_comesBack 110 = .ok (.getfield 50, 3) := by decide +kernel
theorem dMO_comesBack_113 : decode cMO_comesBack 113 = .ok (.iload 4, 2) := by decide +kernel
theorem dMO_comesBack_115 : decode cMO_comesBack 115 = .ok (.baload, 1) := by decide +kernel
theorem dMO_comesBack_116 : decode cMO_comesBack 116 = .ok (.ifCond .ne 26, 3) := by decide +kernel
theorem dMO_comesBack_119 : decode cMO_comesBack 119 = .ok (.aload_n 0, 1) := by decide +kernel
theorem dMO_comesBack_120 : decode cMO_comesBack 120 = .ok (.iload_n 3, 1) := by decide +kernel
theorem dMO_comesBack_121 : decode cMO_comesBack 121 = .ok (.iload 4, 2) := by decide +kernel
theorem dMO_comesBack_123 : decode cMO_comesBack 123 = .ok (.invokevirtual 144, 3) := by decide +kernel
theorem dMO_comesBack_126 : decode cMO_comesBack 126 = .ok (.ifCond .ne 6, 3) := by decide +kernel
theorem dMO_comesBack_129 : decode cMO_comesBack 129 = .ok (.goto 13, 3) := by decide +kernel
theorem dMO_comesBack_132 : decode cMO_comesBack 132 = .ok (.aload_n 0, 1) := by decide +kernel
theorem dMO_comesBack_133 : decode cMO_comesBack 133 = .ok (.getfield 53, 3) := by decide +kernel
theorem dMO_comesBack_136 : decode cMO_comesBack 136 = .ok (.iload 4, 2) := by decide +kernel
theorem dMO_comesBack_138 : decode cMO_comesBack 138 = .ok (.iconst 1, 1) := by decide +kernel
theorem dMO_comesBack_139 : decode cMO_comesBack 139 = .ok (.bastore, 1) := by decide +kernel
theorem dMO_comesBack_140 : decode cMO_comesBack 140 = .ok (.iconst 1, 1) := by decide +kernel
theorem dMO_comesBack_141 : decode cMO_comesBack 141 = .ok (.istore_n 2, 1) := by decide +kernel
theorem dMO_comesBack_142 : decode cMO_comesBack 142 = .ok (.iinc 4 1, 3) := by decide +kernel
theorem dMO_comesBack_145 : decode cMO_comesBack 145 = .ok (.goto (-65), 3) := by decide +kernel
theorem dMO_comesBack_148 : decode cMO_comesBack 148 = .ok (.iinc 3 1, 3) := by decide +kernel
theorem dMO_comesBack_151 : decode cMO_comesBack 151 = .ok (.goto (-108), 3) := by decide +kernel
theorem dMO_comesBack_154 : decode cMO_comesBack 154 = .ok (.goto (-128), 3) := by decide +kernel
theorem dMO_comesBack_157 : decode cMO_comesBack 157 = .ok (.aload_n 0, 1) := by decide +kernel
theorem dMO_comesBack_158 : decode cMO_comesBack 158 = .ok (.getfield 53, 3) := by decide +kernel
theorem dMO_comesBack_161 : decode cMO_comesBack 161 = .ok (.iload_n 1, 1) := by decide +kernel
theorem dMO_comesBack_162 : decode cMO_comesBack 162 = .ok (.baload, 1) := by decide +kernel
theorem dMO_comesBack_163 : decode cMO_comesBack 163 = .ok (.ireturn, 1) := by decide +kernel
theorem dMO_isRing_0 : decode cMO_isRing 0 = .ok (.iconst 0, 1) := by decide +kernel
theorem dMO_isRing_1 : decode cMO_isRing 1 = .ok (.istore_n 2, 1) := by decide +kernel
theorem dMO_isRing_2 : decode cMO_isRing 2 = .ok (.iconst 0, 1) := by decide +kernel
theorem dMO_isRing_3 : decode cMO_isRing 3 = .ok (.istore_n 3, 1) := by decide +kernel
theorem dMO_isRing_4 : decode cMO_isRing 4 = .ok (.iload_n 3, 1) := by decide +kernel
theorem dMO_isRing_5 : decode cMO_isRing 5 = .ok (.aload_n 0, 1) := by decide +kernel
theorem dMO_isRing_6 : decode cMO_isRing 6 = .ok (.getfield 72, 3) := by decide +kernel
theorem dMO_isRing_9 : decode cMO_isRing 9 = .ok (.if_icmp .ge 44, 3) := by decide +kernel
theorem dMO_isRing_12 : decode cMO_isRing 12 = .ok (.iload_n 2, 1) := by decide +kernel
theorem dMO_isRing_13 : decode cMO_isRing 13 = .ok (.ifCond .ne 40, 3) := by decide +kernel
theorem dMO_isRing_16 : decode cMO_isRing 16 = .ok (.aload_n 0, 1) := by decide +kernel
theorem dMO_isRing_17 : decode cMO_isRing 17 = .ok (.getfield 50, 3) := by decide +kernel
theorem dMO_isRing_20 : decode cMO_isRing 20 = .ok (.iload_n 1, 1) := by decide +kernel
theorem dMO_isRing_21 : decode cMO_isRing 21 = .ok (.iload_n 3, 1) := by decide +kernel
theorem dMO_isRing_22 : decode cMO_isRing 22 = .ok (.invokestatic 106, 3) := by decide +kernel
theorem dMO_isRing_25 : decode cMO_isRing 25 = .ok (.baload, 1) := by decide +kernel
theorem dMO_isRing_26 : decode cMO_isRing 26 = .ok (.ifCond .ne 19, 3) := by decide +kernel
theorem dMO_isRing_29 : decode cMO_isRing 29 = .ok (.aload_n 0, 1) := by decide +kernel
theorem dMO_isRing_30 : decode cMO_isRing 30 = .ok (.iload_n 1, 1) := by decide +kernel
theorem dMO_isRing_31 : decode cMO_isRing 31 = .ok (.iload_n 3, 1) := by decide +kernel
theorem dMO_isRing_32 : decode cMO_isRing 32 = .ok (.invokestatic 106, 3) := by decide +kernel
theorem dMO_isRing_35 : decode cMO_isRing 35 = .ok (.invokevirtual 147, 3) := by decide +kernel
theorem dMO_isRing_38 : decode cMO_isRing 38 = .ok (.ifCond .eq 7, 3) := by decide +kernel
theorem dMO_isRing_41 : decode cMO_isRing 41 = .ok (.iconst 1, 1) := by decide +kernel
theorem dMO_isRing_42 : decode cMO_isRing 42 = .ok (.goto 4, 3) := by decide +kernel
theorem dMO_isRing_45 : decode cMO_isRing 45 = .ok (.iconst 0, 1) := by decide +kernel
theorem dMO_isRing_46 : decode cMO_isRing 46 = .ok (.istore_n 2, 1) := by decide +kernel
theorem dMO_isRing_47 : decode cMO_isRing 47 = .ok (.iinc 3 1, 3) := by decide +kernel
theorem dMO_isRing_50 : decode cMO_isRing 50 = .ok (.goto (-46), 3) := by decide +kernel
theorem dMO_isRing_53 : decode cMO_isRing 53 = .ok (.iload_n 2, 1) := by decide +kernel
theorem dMO_isRing_54 : decode cMO_isRing 54 = .ok (.ireturn, 1) := by decide +kernel
theorem dMO_ring_0 : decode cMO_ring 0 = .ok (.aload_n 0, 1) := by decide +kernel
theorem dMO_ring_1 : decode cMO_ring 1 = .ok (.iconst 0, 1) := by decide +kernel
theorem dMO_ring_2 : decode cMO_ring 2 = .ok (.putfield 68, 3) := by decide +kernel
theorem dMO_ring_5 : decode cMO_ring 5 = .ok (.aload_n 0, 1) := by decide +kernel
theorem dMO_ring_6 : decode cMO_ring 6 = .ok (.invokevirtual 121, 3) := by decide +kernel
theorem dMO_ring_9 : decode cMO_ring 9 = .ok (.iload_n 1, 1) := by decide +kernel
theorem dMO_ring_10 : decode cMO_ring 10 = .ok (.istore_n 2, 1) := by decide +kernel
theorem dMO_ring_11 : decode cMO_ring 11 = .ok (.iconst 0, 1) := by decide +kernel
theorem dMO_ring_12 : decode cMO_ring 12 = .ok (.istore_n 3, 1) := by decide +kernel
theorem dMO_ring_13 : decode cMO_ring 13 = .ok (.iload_n 3, 1) := by decide +kernel
theorem dMO_ring_14 : decode cMO_ring 14 = .ok (.aload_n 0, 1) := by decide +kernel
theorem dMO_ring_15 : decode cMO_ring 15 = .ok (.getfield 75, 3) := by decide +kernel
theorem dMO_ring_18 : decode cMO_ring 18 = .ok (.if_icmp .ge 29, 3) := by decide +kernel
theorem dMO_ring_21 : decode cMO_ring 21 = .ok (.aload_n 0, 1) := by decide +kernel
theorem dMO_ring_22 : decode cMO_ring 22 = .ok (.iload_n 3, 1) := by decide +kernel
theorem dMO_ring_23 : decode cMO_ring 23 = .ok (.invokevirtual 150, 3) := by decide +kernel
theorem dMO_ring_26 : decode cMO_ring 26 = .ok (.ifCond .ne 6, 3) := by decide +kernel
theorem dMO_ring_29 : decode cMO_ring 29 = .ok (.goto 12, 3) := by decide +kernel
theorem dMO_ring_32 : decode cMO_ring 32 = .ok (.iload_n 2, 1) := by decide +kernel
theorem dMO_ring_33 : decode cMO_ring 33 = .ok (.ifCond .ne 5, 3) := by decide +kernel
theorem dMO_ring_36 : decode cMO_ring 36 = .ok (.iload_n 3, 1) := by decide +kernel
theorem dMO_ring_37 : decode cMO_ring 37 = .ok (.ireturn, 1) := by decide +kernel
theorem dMO_ring_38 : decode cMO_ring 38 = .ok (.iinc 2 (-1), 3) := by decide +kernel
theorem dMO_ring_41 : decode cMO_ring 41 = .ok (.iinc 3 1, 3) := by decide +kernel
theorem dMO_ring_44 : decode cMO_ring 44 = .ok (.goto (-31), 3) := by decide +kernel
theorem dMO_ring_47 : decode cMO_ring 47 = .ok (.iconst (-1), 1) := by decide +kernel
theorem dMO_ring_48 : decode cMO_ring 48 = .ok (.ireturn, 1) := by decide +kernel
end
section
theorem dLW_law_0 : decode cLW_law 0 = .ok (.new 7, 3) := by decide +kernel
theorem dLW_law_3 : decode cLW_law 3 = .ok (.dup, 1) := by decide +kernel
theorem dLW_law_4 : decode cLW_law 4 = .ok (.invokespecial 9, 3) := by decide +kernel
theorem dLW_law_7 : decode cLW_law 7 = .ok (.astore_n 1, 1) := by decide +kernel
theorem dLW_law_8 : decode cLW_law 8 = .ok (.new 10, 3) := by decide +kernel
theorem dLW_law_11 : decode cLW_law 11 = .ok (.dup, 1) := by decide +kernel
theorem dLW_law_12 : decode cLW_law 12 = .ok (.invokespecial 12, 3) := by decide +kernel
theorem dLW_law_15 : decode cLW_law 15 = .ok (.astore_n 2, 1) := by decide +kernel
theorem dLW_law_16 : decode cLW_law 16 = .ok (.iconst 0, 1) := by decide +kernel
theorem dLW_law_17 : decode cLW_law 17 = .ok (.istore_n 3, 1) := by decide +kernel
theorem dLW_law_18 : decode cLW_law 18 = .ok (.iload_n 3, 1) := by decide +kernel
theorem dLW_law_19 : decode cLW_law 19 = .ok (.aload_n 0, 1) := by decide +kernel
theorem dLW_law_20 : decode cLW_law 20 = .ok (.arraylength, 1) := by decide +kernel
theorem dLW_law_21 : decode cLW_law 21 = .ok (.iconst 5, 1) := by decide +kernel
theorem dLW_law_22 : decode cLW_law 22 = .ok (.isub, 1) := by decide +kernel
theorem dLW_law_23 : decode cLW_law 23 = .ok (.if_icmp .gt 488, 3) := by decide +kernel
theorem dLW_law_26 : decode cLW_law 26 = .ok (.aload_n 0, 1) := by decide +kernel
theorem dLW_law_27 : decode cLW_law 27 = .ok (.iload_n 3, 1) := by decide +kernel
theorem dLW_law_28 : decode cLW_law 28 = .ok (.iaload, 1) := by decide +kernel
theorem dLW_law_29 : decode cLW_law 29 = .ok (.bipush 15, 2) := by decide +kernel
theorem dLW_law_31 : decode cLW_law 31 = .ok (.iand, 1) := by decide +kernel
theorem dLW_law_32 : decode cLW_law 32 = .ok (.tableswitch 473 0 12 #[68, 91, 144, 177, 210, 269, 292, 325, 348, 371, 384, 417, 450], 68) := by decide +kernel
theorem dLW_law_100 : decode cLW_law 100 = .ok (.aload_n 1, 1) := by decide +kernel
theorem dLW_law_101 : decode cLW_law 101 = .ok (.aload_n 0, 1) := by decide +kernel
theorem dLW_law_102 : decode cLW_law 102 = .ok (.iload_n 3, 1) := by decide +kernel
theorem dLW_law_103 : decode cLW_law 103 = .ok (.iconst 1, 1) := by decide +kernel
theorem dLW_law_104 : decode cLW_law 104 = .ok (.iadd, 1) := by decide +kernel
theorem dLW_law_105 : decode cLW_law 105 = .ok (.iaload, 1) := by decide +kernel
theorem dLW_law_106 : decode cLW_law 106 = .ok (.invokevirtual 13, 3) := by decide +kernel
theorem dLW_law_109 : decode cLW_law 109 = .ok (.aload_n 2, 1) := by decide +kernel
theorem dLW_law_110 : decode cLW_law 110 = .ok (.aload_n 0, 1) := by decide +kernel
theorem dLW_law_111 : decode cLW_law 111 = .ok (.iload_n 3, 1) := by decide +kernel
theorem dLW_law_112 : decode cLW_law 112 = .ok (.iconst 1, 1) := by decide +kernel
theorem dLW_law_113 : decode cLW_law 113 = .ok (.iadd, 1) := by decide +kernel
theorem dLW_law_114 : decode cLW_law 114 = .ok (.iaload, 1) := by decide +kernel
theorem dLW_law_115 : decode cLW_law 115 = .ok (.invokevirtual 17, 3) := by decide +kernel
theorem dLW_law_118 : decode cLW_law 118 = .ok (.if_icmp .eq 387, 3) := by decide +kernel
theorem dLW_law_121 : decode cLW_law 121 = .ok (.iconst 0, 1) := by decide +kernel
theorem dLW_law_122 : decode cLW_law 122 = .ok (.ireturn, 1) := by decide +kernel
theorem dLW_law_123 : decode cLW_law 123 = .ok (.aload_n 1, 1) := by decide +kernel
theorem dLW_law_124 : decode cLW_law 124 = .ok (.aload_n 0, 1) := by decide +kernel
theorem dLW_law_125 : decode cLW_law 125 = .ok (.iload_n 3, 1) := by decide +kernel
theorem dLW_law_126 : decode cLW_law 126 = .ok (.iconst 1, 1) := by decide +kernel
theorem dLW_law_127 : decode cLW_law 127 = .ok (.iadd, 1) := by decide +kernel
theorem dLW_law_128 : decode cLW_law 128 = .ok (.iaload, 1) := by decide +kernel
theorem dLW_law_129 : decode cLW_law 129 = .ok (.aload_n 0, 1) := by decide +kernel
theorem dLW_law_130 : decode cLW_law 130 = .ok (.iload_n 3, 1) := by decide +kernel
theorem dLW_law_131 : decode cLW_law 131 = .ok (.iconst 2, 1) := by decide +kernel
theorem dLW_law_132 : decode cLW_law 132 = .ok (.iadd, 1) := by decide +kernel
theorem dLW_law_133 : decode cLW_law 133 = .ok (.iaload, 1) := by decide +kernel
theorem dLW_law_134 : decode cLW_law 134 = .ok (.aload_n 0, 1) := by decide +kernel
theorem dLW_law_135 : decode cLW_law 135 = .ok (.iload_n 3, 1) := by decide +kernel
theorem dLW_law_136 : decode cLW_law 136 = .ok (.iconst 3, 1) := by decide +kernel
theorem dLW_law_137 : decode cLW_law 137 = .ok (.iadd, 1) := by decide +kernel
theorem dLW_law_138 : decode cLW_law 138 = .ok (.iaload, 1) := by decide +kernel
theorem dLW_law_139 : decode cLW_law 139 = .ok (.aload_n 0, 1) := by decide +kernel
theorem dLW_law_140 : decode cLW_law 140 = .ok (.iload_n 3, 1) := by decide +kernel
theorem dLW_law_141 : decode cLW_law 141 = .ok (.iconst 4, 1) := by decide +kernel
theorem dLW_law_142 : decode cLW_law 142 = .ok (.iadd, 1) := by decide +kernel
theorem dLW_law_143 : decode cLW_law 143 = .ok (.iaload, 1) := by decide +kernel
theorem dLW_law_144 : decode cLW_law 144 = .ok (.invokevirtual 18, 3) := by decide +kernel
theorem dLW_law_147 : decode cLW_law 147 = .ok (.aload_n 2, 1) := by decide +kernel
theorem dLW_law_148 : decode cLW_law 148 = .ok (.aload_n 0, 1) := by decide +kernel
theorem dLW_law_149 : decode cLW_law 149 = .ok (.iload_n 3, 1) := by decide +kernel
theorem dLW_law_150 : decode cLW_law 150 = .ok (.iconst 1, 1) := by decide +kernel
theorem dLW_law_151 : decode cLW_law 151 = .ok (.iadd, 1) := by decide +kernel
theorem dLW_law_152 : decode cLW_law 152 = .ok (.iaload, 1) := by decide +kernel
theorem dLW_law_153 : decode cLW_law 153 = .ok (.aload_n 0, 1) := by decide +kernel
theorem dLW_law_154 : decode cLW_law 154 = .ok (.iload_n 3, 1) := by decide +kernel
theorem dLW_law_155 : decode cLW_law 155 = .ok (.iconst 2, 1) := by decide +kernel
theorem dLW_law_156 : decode cLW_law 156 = .ok (.iadd, 1) := by decide +kernel
theorem dLW_law_157 : decode cLW_law 157 = .ok (.iaload, 1) := by decide +kernel
theorem dLW_law_158 : decode cLW_law 158 = .ok (.aload_n 0, 1) := by decide +kernel
theorem dLW_law_159 : decode cLW_law 159 = .ok (.iload_n 3, 1) := by decide +kernel
theorem dLW_law_160 : decode cLW_law 160 = .ok (.iconst 3, 1) := by decide +kernel
theorem dLW_law_161 : decode cLW_law 161 = .ok (.iadd, 1) := by decide +kernel
theorem dLW_law_162 : decode cLW_law 162 = .ok (.iaload, 1) := by decide +kernel
theorem dLW_law_163 : decode cLW_law 163 = .ok (.aload_n 0, 1) := by decide +kernel
theorem dLW_law_164 : decode cLW_law 164 = .ok (.iload_n 3, 1) := by decide +kernel
theorem dLW_law_165 : decode cLW_law 165 = .ok (.iconst 4, 1) := by decide +kernel
theorem dLW_law_166 : decode cLW_law 166 = .ok (.iadd, 1) := by decide +kernel
theorem dLW_law_167 : decode cLW_law 167 = .ok (.iaload, 1) := by decide +kernel
theorem dLW_law_168 : decode cLW_law 168 = .ok (.invokevirtual 22, 3) := by decide +kernel
theorem dLW_law_171 : decode cLW_law 171 = .ok (.if_icmp .eq 334, 3) := by decide +kernel
theorem dLW_law_174 : decode cLW_law 174 = .ok (.iconst 0, 1) := by decide +kernel
theorem dLW_law_175 : decode cLW_law 175 = .ok (.ireturn, 1) := by decide +kernel
theorem dLW_law_176 : decode cLW_law 176 = .ok (.aload_n 1, 1) := by decide +kernel
theorem dLW_law_177 : decode cLW_law 177 = .ok (.aload_n 0, 1) := by decide +kernel
theorem dLW_law_178 : decode cLW_law 178 = .ok (.iload_n 3, 1) := by decide +kernel
theorem dLW_law_179 : decode cLW_law 179 = .ok (.iconst 1, 1) := by decide +kernel
theorem dLW_law_180 : decode cLW_law 180 = .ok (.iadd, 1) := by decide +kernel
theorem dLW_law_181 : decode cLW_law 181 = .ok (.iaload, 1) := by decide +kernel
theorem dLW_law_182 : decode cLW_law 182 = .ok (.aload_n 0, 1) := by decide +kernel
theorem dLW_law_183 : decode cLW_law 183 = .ok (.iload_n 3, 1) := by decide +kernel
theorem dLW_law_184 : decode cLW_law 184 = .ok (.iconst 2, 1) := by decide +kernel
theorem dLW_law_185 : decode cLW_law 185 = .ok (.iadd, 1) := by decide +kernel
theorem dLW_law_186 : decode cLW_law 186 = .ok (.iaload, 1) := by decide +kernel
theorem dLW_law_187 : decode cLW_law 187 = .ok (.invokevirtual 23, 3) := by decide +kernel
theorem dLW_law_190 : decode cLW_law 190 = .ok (.aload_n 2, 1) := by decide +kernel
theorem dLW_law_191 : decode cLW_law 191 = .ok (.aload_n 0, 1) := by decide +kernel
theorem dLW_law_192 : decode cLW_law 192 = .ok (.iload_n 3, 1) := by decide +kernel
theorem dLW_law_193 : decode cLW_law 193 = .ok (.iconst 1, 1) := by decide +kernel
theorem dLW_law_194 : decode cLW_law 194 = .ok (.iadd, 1) := by decide +kernel
theorem dLW_law_195 : decode cLW_law 195 = .ok (.iaload, 1) := by decide +kernel
theorem dLW_law_196 : decode cLW_law 196 = .ok (.aload_n 0, 1) := by decide +kernel
theorem dLW_law_197 : decode cLW_law 197 = .ok (.iload_n 3, 1) := by decide +kernel
theorem dLW_law_198 : decode cLW_law 198 = .ok (.iconst 2, 1) := by decide +kernel
theorem dLW_law_199 : decode cLW_law 199 = .ok (.iadd, 1) := by decide +kernel
theorem dLW_law_200 : decode cLW_law 200 = .ok (.iaload, 1) := by decide +kernel
theorem dLW_law_201 : decode cLW_law 201 = .ok (.invokevirtual 27, 3) := by decide +kernel
theorem dLW_law_204 : decode cLW_law 204 = .ok (.if_icmp .eq 301, 3) := by decide +kernel
theorem dLW_law_207 : decode cLW_law 207 = .ok (.iconst 0, 1) := by decide +kernel
theorem dLW_law_208 : decode cLW_law 208 = .ok (.ireturn, 1) := by decide +kernel
theorem dLW_law_209 : decode cLW_law 209 = .ok (.aload_n 1, 1) := by decide +kernel
theorem dLW_law_210 : decode cLW_law 210 = .ok (.aload_n 0, 1) := by decide +kernel
theorem dLW_law_211 : decode cLW_law 211 = .ok (.iload_n 3, 1) := by decide +kernel
theorem dLW_law_212 : decode cLW_law 212 = .ok (.iconst 1, 1) := by decide +kernel
theorem dLW_law_213 : decode cLW_law 213 = .ok (.iadd, 1) := by decide +kernel
theorem dLW_law_214 : decode cLW_law 214 = .ok (.iaload, 1) := by decide +kernel
theorem dLW_law_215 : decode cLW_law 215 = .ok (.aload_n 0, 1) := by decide +kernel
theorem dLW_law_216 : decode cLW_law 216 = .ok (.iload_n 3, 1) := by decide +kernel
theorem dLW_law_217 : decode cLW_law 217 = .ok (.iconst 2, 1) := by decide +kernel
theorem dLW_law_218 : decode cLW_law 218 = .ok (.iadd, 1) := by decide +kernel
theorem dLW_law_219 : decode cLW_law 219 = .ok (.iaload, 1) := by decide +kernel
theorem dLW_law_220 : decode cLW_law 220 = .ok (.invokevirtual 28, 3) := by decide +kernel
theorem dLW_law_223 : decode cLW_law 223 = .ok (.aload_n 2, 1) := by decide +kernel
theorem dLW_law_224 : decode cLW_law 224 = .ok (.aload_n 0, 1) := by decide +kernel
theorem dLW_law_225 : decode cLW_law 225 = .ok (.iload_n 3, 1) := by decide +kernel
theorem dLW_law_226 : decode cLW_law 226 = .ok (.iconst 1, 1) := by decide +kernel
theorem dLW_law_227 : decode cLW_law 227 = .ok (.iadd, 1) := by decide +kernel
theorem dLW_law_228 : decode cLW_law 228 = .ok (.iaload, 1) := by decide +kernel
theorem dLW_law_229 : decode cLW_law 229 = .ok (.aload_n 0, 1) := by decide +kernel
theorem dLW_law_230 : decode cLW_law 230 = .ok (.iload_n 3, 1) := by decide +kernel
theorem dLW_law_231 : decode cLW_law 231 = .ok (.iconst 2, 1) := by decide +kernel
theorem dLW_law_232 : decode cLW_law 232 = .ok (.iadd, 1) := by decide +kernel
theorem dLW_law_233 : decode cLW_law 233 = .ok (.iaload, 1) := by decide +kernel
theorem dLW_law_234 : decode cLW_law 234 = .ok (.invokevirtual 31, 3) := by decide +kernel
theorem dLW_law_237 : decode cLW_law 237 = .ok (.if_icmp .eq 268, 3) := by decide +kernel
theorem dLW_law_240 : decode cLW_law 240 = .ok (.iconst 0, 1) := by decide +kernel
theorem dLW_law_241 : decode cLW_law 241 = .ok (.ireturn, 1) := by decide +kernel
theorem dLW_law_242 : decode cLW_law 242 = .ok (.aload_n 1, 1) := by decide +kernel
theorem dLW_law_243 : decode cLW_law 243 = .ok (.aload_n 0, 1) := by decide +kernel
theorem dLW_law_244 : decode cLW_law 244 = .ok (.iload_n 3, 1) := by decide +kernel
theorem dLW_law_245 : decode cLW_law 245 = .ok (.iconst 1, 1) := by decide +kernel
theorem dLW_law_246 : decode cLW_law 246 = .ok (.iadd, 1) := by decide +kernel
theorem dLW_law_247 : decode cLW_law 247 = .ok (.iaload, 1) := by decide +kernel
theorem dLW_law_248 : decode cLW_law 248 = .ok (.aload_n 0, 1) := by decide +kernel
theorem dLW_law_249 : decode cLW_law 249 = .ok (.iload_n 3, 1) := by decide +kernel
theorem dLW_law_250 : decode cLW_law 250 = .ok (.iconst 2, 1) := by decide +kernel
theorem dLW_law_251 : decode cLW_law 251 = .ok (.iadd, 1) := by decide +kernel
theorem dLW_law_252 : decode cLW_law 252 = .ok (.iaload, 1) := by decide +kernel
theorem dLW_law_253 : decode cLW_law 253 = .ok (.aload_n 0, 1) := by decide +kernel
theorem dLW_law_254 : decode cLW_law 254 = .ok (.iload_n 3, 1) := by decide +kernel
theorem dLW_law_255 : decode cLW_law 255 = .ok (.iconst 3, 1) := by decide +kernel
theorem dLW_law_256 : decode cLW_law 256 = .ok (.iadd, 1) := by decide +kernel
theorem dLW_law_257 : decode cLW_law 257 = .ok (.iaload, 1) := by decide +kernel
theorem dLW_law_258 : decode cLW_law 258 = .ok (.ifCond .eq 7, 3) := by decide +kernel
theorem dLW_law_261 : decode cLW_law 261 = .ok (.iconst 1, 1) := by decide +kernel
theorem dLW_law_262 : decode cLW_law 262 = .ok (.goto 4, 3) := by decide +kernel
theorem dLW_law_265 : decode cLW_law 265 = .ok (.iconst 0, 1) := by decide +kernel
theorem dLW_law_266 : decode cLW_law 266 = .ok (.invokevirtual 32, 3) := by decide +kernel
theorem dLW_law_269 : decode cLW_law 269 = .ok (.aload_n 2, 1) := by decide +kernel
theorem dLW_law_270 : decode cLW_law 270 = .ok (.aload_n 0, 1) := by decide +kernel
theorem dLW_law_271 : decode cLW_law 271 = .ok (.iload_n 3, 1) := by decide +kernel
theorem dLW_law_272 : decode cLW_law 272 = .ok (.iconst 1, 1) := by decide +kernel
theorem dLW_law_273 : decode cLW_law 273 = .ok (.iadd, 1) := by decide +kernel
theorem dLW_law_274 : decode cLW_law 274 = .ok (.iaload, 1) := by decide +kernel
theorem dLW_law_275 : decode cLW_law 275 = .ok (.aload_n 0, 1) := by decide +kernel
theorem dLW_law_276 : decode cLW_law 276 = .ok (.iload_n 3, 1) := by decide +kernel
theorem dLW_law_277 : decode cLW_law 277 = .ok (.iconst 2, 1) := by decide +kernel
theorem dLW_law_278 : decode cLW_law 278 = .ok (.iadd, 1) := by decide +kernel
theorem dLW_law_279 : decode cLW_law 279 = .ok (.iaload, 1) := by decide +kernel
theorem dLW_law_280 : decode cLW_law 280 = .ok (.aload_n 0, 1) := by decide +kernel
theorem dLW_law_281 : decode cLW_law 281 = .ok (.iload_n 3, 1) := by decide +kernel
theorem dLW_law_282 : decode cLW_law 282 = .ok (.iconst 3, 1) := by decide +kernel
theorem dLW_law_283 : decode cLW_law 283 = .ok (.iadd, 1) := by decide +kernel
theorem dLW_law_284 : decode cLW_law 284 = .ok (.iaload, 1) := by decide +kernel
theorem dLW_law_285 : decode cLW_law 285 = .ok (.ifCond .eq 7, 3) := by decide +kernel
theorem dLW_law_288 : decode cLW_law 288 = .ok (.iconst 1, 1) := by decide +kernel
theorem dLW_law_289 : decode cLW_law 289 = .ok (.goto 4, 3) := by decide +kernel
theorem dLW_law_292 : decode cLW_law 292 = .ok (.iconst 0, 1) := by decide +kernel
theorem dLW_law_293 : decode cLW_law 293 = .ok (.invokevirtual 36, 3) := by decide +kernel
theorem dLW_law_296 : decode cLW_law 296 = .ok (.if_icmp .eq 209, 3) := by decide +kernel
theorem dLW_law_299 : decode cLW_law 299 = .ok (.iconst 0, 1) := by decide +kernel
theorem dLW_law_300 : decode cLW_law 300 = .ok (.ireturn, 1) := by decide +kernel
theorem dLW_law_301 : decode cLW_law 301 = .ok (.aload_n 1, 1) := by decide +kernel
theorem dLW_law_302 : decode cLW_law 302 = .ok (.aload_n 0, 1) := by decide +kernel
theorem dLW_law_303 : decode cLW_law 303 = .ok (.iload_n 3, 1) := by decide +kernel
theorem dLW_law_304 : decode cLW_law 304 = .ok (.iconst 1, 1) := by decide +kernel
theorem dLW_law_305 : decode cLW_law 305 = .ok (.iadd, 1) := by decide +kernel
theorem dLW_law_306 : decode cLW_law 306 = .ok (.iaload, 1) := by decide +kernel
theorem dLW_law_307 : decode cLW_law 307 = .ok (.invokevirtual 37, 3) := by decide +kernel
theorem dLW_law_310 : decode cLW_law 310 = .ok (.aload_n 2, 1) := by decide +kernel
theorem dLW_law_311 : decode cLW_law 311 = .ok (.aload_n 0, 1) := by decide +kernel
theorem dLW_law_312 : decode cLW_law 312 = .ok (.iload_n 3, 1) := by decide +kernel
theorem dLW_law_313 : decode cLW_law 313 = .ok (.iconst 1, 1) := by decide +kernel
theorem dLW_law_314 : decode cLW_law 314 = .ok (.iadd, 1) := by decide +kernel
theorem dLW_law_315 : decode cLW_law 315 = .ok (.iaload, 1) := by decide +kernel
theorem dLW_law_316 : decode cLW_law 316 = .ok (.invokevirtual 41, 3) := by decide +kernel
theorem dLW_law_319 : decode cLW_law 319 = .ok (.if_icmp .eq 186, 3) := by decide +kernel
theorem dLW_law_322 : decode cLW_law 322 = .ok (.iconst 0, 1) := by decide +kernel
theorem dLW_law_323 : decode cLW_law 323 = .ok (.ireturn, 1) := by decide +kernel
theorem dLW_law_324 : decode cLW_law 324 = .ok (.aload_n 1, 1) := by decide +kernel
theorem dLW_law_325 : decode cLW_law 325 = .ok (.aload_n 0, 1) := by decide +kernel
theorem dLW_law_326 : decode cLW_law 326 = .ok (.iload_n 3, 1) := by decide +kernel
theorem dLW_law_327 : decode cLW_law 327 = .ok (.iconst 1, 1) := by decide +kernel
theorem dLW_law_328 : decode cLW_law 328 = .ok (.iadd, 1) := by decide +kernel
theorem dLW_law_329 : decode cLW_law 329 = .ok (.iaload, 1) := by decide +kernel
theorem dLW_law_330 : decode cLW_law 330 = .ok (.aload_n 0, 1) := by decide +kernel
theorem dLW_law_331 : decode cLW_law 331 = .ok (.iload_n 3, 1) := by decide +kernel
theorem dLW_law_332 : decode cLW_law 332 = .ok (.iconst 2, 1) := by decide +kernel
theorem dLW_law_333 : decode cLW_law 333 = .ok (.iadd, 1) := by decide +kernel
theorem dLW_law_334 : decode cLW_law 334 = .ok (.iaload, 1) := by decide +kernel
theorem dLW_law_335 : decode cLW_law 335 = .ok (.invokevirtual 42, 3) := by decide +kernel
theorem dLW_law_338 : decode cLW_law 338 = .ok (.aload_n 2, 1) := by decide +kernel
theorem dLW_law_339 : decode cLW_law 339 = .ok (.aload_n 0, 1) := by decide +kernel
theorem dLW_law_340 : decode cLW_law 340 = .ok (.iload_n 3, 1) := by decide +kernel
theorem dLW_law_341 : decode cLW_law 341 = .ok (.iconst 1, 1) := by decide +kernel
theorem dLW_law_342 : decode cLW_law 342 = .ok (.iadd, 1) := by decide +kernel
theorem dLW_law_343 : decode cLW_law 343 = .ok (.iaload, 1) := by decide +kernel
theorem dLW_law_344 : decode cLW_law 344 = .ok (.aload_n 0, 1) := by decide +kernel
theorem dLW_law_345 : decode cLW_law 345 = .ok (.iload_n 3, 1) := by decide +kernel
theorem dLW_law_346 : decode cLW_law 346 = .ok (.iconst 2, 1) := by decide +kernel
theorem dLW_law_347 : decode cLW_law 347 = .ok (.iadd, 1) := by decide +kernel
theorem dLW_law_348 : decode cLW_law 348 = .ok (.iaload, 1) := by decide +kernel
theorem dLW_law_349 : decode cLW_law 349 = .ok (.invokevirtual 45, 3) := by decide +kernel
theorem dLW_law_352 : decode cLW_law 352 = .ok (.if_icmp .eq 153, 3) := by decide +kernel
theorem dLW_law_355 : decode cLW_law 355 = .ok (.iconst 0, 1) := by decide +kernel
theorem dLW_law_356 : decode cLW_law 356 = .ok (.ireturn, 1) := by decide +kernel
theorem dLW_law_357 : decode cLW_law 357 = .ok (.aload_n 1, 1) := by decide +kernel
theorem dLW_law_358 : decode cLW_law 358 = .ok (.aload_n 0, 1) := by decide +kernel
theorem dLW_law_359 : decode cLW_law 359 = .ok (.iload_n 3, 1) := by decide +kernel
theorem dLW_law_360 : decode cLW_law 360 = .ok (.iconst 1, 1) := by decide +kernel
theorem dLW_law_361 : decode cLW_law 361 = .ok (.iadd, 1) := by decide +kernel
theorem dLW_law_362 : decode cLW_law 362 = .ok (.iaload, 1) := by decide +kernel
theorem dLW_law_363 : decode cLW_law 363 = .ok (.invokevirtual 46, 3) := by decide +kernel
theorem dLW_law_366 : decode cLW_law 366 = .ok (.aload_n 2, 1) := by decide +kernel
theorem dLW_law_367 : decode cLW_law 367 = .ok (.aload_n 0, 1) := by decide +kernel
theorem dLW_law_368 : decode cLW_law 368 = .ok (.iload_n 3, 1) := by decide +kernel
theorem dLW_law_369 : decode cLW_law 369 = .ok (.iconst 1, 1) := by decide +kernel
theorem dLW_law_370 : decode cLW_law 370 = .ok (.iadd, 1) := by decide +kernel
theorem dLW_law_371 : decode cLW_law 371 = .ok (.iaload, 1) := by decide +kernel
theorem dLW_law_372 : decode cLW_law 372 = .ok (.invokevirtual 49, 3) := by decide +kernel
theorem dLW_law_375 : decode cLW_law 375 = .ok (.if_icmp .eq 130, 3) := by decide +kernel
theorem dLW_law_378 : decode cLW_law 378 = .ok (.iconst 0, 1) := by decide +kernel
theorem dLW_law_379 : decode cLW_law 379 = .ok (.ireturn, 1) := by decide +kernel
theorem dLW_law_380 : decode cLW_law 380 = .ok (.aload_n 1, 1) := by decide +kernel
theorem dLW_law_381 : decode cLW_law 381 = .ok (.aload_n 0, 1) := by decide +kernel
theorem dLW_law_382 : decode cLW_law 382 = .ok (.iload_n 3, 1) := by decide +kernel
theorem dLW_law_383 : decode cLW_law 383 = .ok (.iconst 1, 1) := by decide +kernel
theorem dLW_law_384 : decode cLW_law 384 = .ok (.iadd, 1) := by decide +kernel
theorem dLW_law_385 : decode cLW_law 385 = .ok (.iaload, 1) := by decide +kernel
theorem dLW_law_386 : decode cLW_law 386 = .ok (.invokevirtual 50, 3) := by decide +kernel
theorem dLW_law_389 : decode cLW_law 389 = .ok (.aload_n 2, 1) := by decide +kernel
theorem dLW_law_390 : decode cLW_law 390 = .ok (.aload_n 0, 1) := by decide +kernel
theorem dLW_law_391 : decode cLW_law 391 = .ok (.iload_n 3, 1) := by decide +kernel
theorem dLW_law_392 : decode cLW_law 392 = .ok (.iconst 1, 1) := by decide +kernel
theorem dLW_law_393 : decode cLW_law 393 = .ok (.iadd, 1) := by decide +kernel
theorem dLW_law_394 : decode cLW_law 394 = .ok (.iaload, 1) := by decide +kernel
theorem dLW_law_395 : decode cLW_law 395 = .ok (.invokevirtual 53, 3) := by decide +kernel
theorem dLW_law_398 : decode cLW_law 398 = .ok (.if_icmp .eq 107, 3) := by decide +kernel
theorem dLW_law_401 : decode cLW_law 401 = .ok (.iconst 0, 1) := by decide +kernel
theorem dLW_law_402 : decode cLW_law 402 = .ok (.ireturn, 1) := by decide +kernel
theorem dLW_law_403 : decode cLW_law 403 = .ok (.aload_n 1, 1) := by decide +kernel
theorem dLW_law_404 : decode cLW_law 404 = .ok (.invokevirtual 54, 3) := by decide +kernel
theorem dLW_law_407 : decode cLW_law 407 = .ok (.aload_n 2, 1) := by decide +kernel
theorem dLW_law_408 : decode cLW_law 408 = .ok (.invokevirtual 58, 3) := by decide +kernel
theorem dLW_law_411 : decode cLW_law 411 = .ok (.if_icmp .eq 94, 3) := by decide +kernel
theorem dLW_law_414 : decode cLW_law 414 = .ok (.iconst 0, 1) := by decide +kernel
theorem dLW_law_415 : decode cLW_law 415 = .ok (.ireturn, 1) := by decide +kernel
theorem dLW_law_416 : decode cLW_law 416 = .ok (.aload_n 1, 1) := by decide +kernel
theorem dLW_law_417 : decode cLW_law 417 = .ok (.aload_n 0, 1) := by decide +kernel
theorem dLW_law_418 : decode cLW_law 418 = .ok (.iload_n 3, 1) := by decide +kernel
theorem dLW_law_419 : decode cLW_law 419 = .ok (.iconst 1, 1) := by decide +kernel
theorem dLW_law_420 : decode cLW_law 420 = .ok (.iadd, 1) := by decide +kernel
theorem dLW_law_421 : decode cLW_law 421 = .ok (.iaload, 1) := by decide +kernel
theorem dLW_law_422 : decode cLW_law 422 = .ok (.aload_n 0, 1) := by decide +kernel
theorem dLW_law_423 : decode cLW_law 423 = .ok (.iload_n 3, 1) := by decide +kernel
theorem dLW_law_424 : decode cLW_law 424 = .ok (.iconst 2, 1) := by decide +kernel
theorem dLW_law_425 : decode cLW_law 425 = .ok (.iadd, 1) := by decide +kernel
theorem dLW_law_426 : decode cLW_law 426 = .ok (.iaload, 1) := by decide +kernel
theorem dLW_law_427 : decode cLW_law 427 = .ok (.invokevirtual 59, 3) := by decide +kernel
theorem dLW_law_430 : decode cLW_law 430 = .ok (.aload_n 2, 1) := by decide +kernel
theorem dLW_law_431 : decode cLW_law 431 = .ok (.aload_n 0, 1) := by decide +kernel
theorem dLW_law_432 : decode cLW_law 432 = .ok (.iload_n 3, 1) := by decide +kernel
theorem dLW_law_433 : decode cLW_law 433 = .ok (.iconst 1, 1) := by decide +kernel
theorem dLW_law_434 : decode cLW_law 434 = .ok (.iadd, 1) := by decide +kernel
theorem dLW_law_435 : decode cLW_law 435 = .ok (.iaload, 1) := by decide +kernel
theorem dLW_law_436 : decode cLW_law 436 = .ok (.aload_n 0, 1) := by decide +kernel
theorem dLW_law_437 : decode cLW_law 437 = .ok (.iload_n 3, 1) := by decide +kernel
theorem dLW_law_438 : decode cLW_law 438 = .ok (.iconst 2, 1) := by decide +kernel
theorem dLW_law_439 : decode cLW_law 439 = .ok (.iadd, 1) := by decide +kernel
theorem dLW_law_440 : decode cLW_law 440 = .ok (.iaload, 1) := by decide +kernel
theorem dLW_law_441 : decode cLW_law 441 = .ok (.invokevirtual 63, 3) := by decide +kernel
theorem dLW_law_444 : decode cLW_law 444 = .ok (.if_icmp .eq 61, 3) := by decide +kernel
theorem dLW_law_447 : decode cLW_law 447 = .ok (.iconst 0, 1) := by decide +kernel
theorem dLW_law_448 : decode cLW_law 448 = .ok (.ireturn, 1) := by decide +kernel
theorem dLW_law_449 : decode cLW_law 449 = .ok (.aload_n 1, 1) := by decide +kernel
theorem dLW_law_450 : decode cLW_law 450 = .ok (.aload_n 0, 1) := by decide +kernel
theorem dLW_law_451 : decode cLW_law 451 = .ok (.iload_n 3, 1) := by decide +kernel
theorem dLW_law_452 : decode cLW_law 452 = .ok (.iconst 1, 1) := by decide +kernel
theorem dLW_law_453 : decode cLW_law 453 = .ok (.iadd, 1) := by decide +kernel
theorem dLW_law_454 : decode cLW_law 454 = .ok (.iaload, 1) := by decide +kernel
theorem dLW_law_455 : decode cLW_law 455 = .ok (.aload_n 0, 1) := by decide +kernel
theorem dLW_law_456 : decode cLW_law 456 = .ok (.iload_n 3, 1) := by decide +kernel
theorem dLW_law_457 : decode cLW_law 457 = .ok (.iconst 2, 1) := by decide +kernel
theorem dLW_law_458 : decode cLW_law 458 = .ok (.iadd, 1) := by decide +kernel
theorem dLW_law_459 : decode cLW_law 459 = .ok (.iaload, 1) := by decide +kernel
theorem dLW_law_460 : decode cLW_law 460 = .ok (.invokevirtual 64, 3) := by decide +kernel
theorem dLW_law_463 : decode cLW_law 463 = .ok (.aload_n 2, 1) := by decide +kernel
theorem dLW_law_464 : decode cLW_law 464 = .ok (.aload_n 0, 1) := by decide +kernel
theorem dLW_law_465 : decode cLW_law 465 = .ok (.iload_n 3, 1) := by decide +kernel
theorem dLW_law_466 : decode cLW_law 466 = .ok (.iconst 1, 1) := by decide +kernel
theorem dLW_law_467 : decode cLW_law 467 = .ok (.iadd, 1) := by decide +kernel
theorem dLW_law_468 : decode cLW_law 468 = .ok (.iaload, 1) := by decide +kernel
theorem dLW_law_469 : decode cLW_law 469 = .ok (.aload_n 0, 1) := by decide +kernel
theorem dLW_law_470 : decode cLW_law 470 = .ok (.iload_n 3, 1) := by decide +kernel
theorem dLW_law_471 : decode cLW_law 471 = .ok (.iconst 2, 1) := by decide +kernel
theorem dLW_law_472 : decode cLW_law 472 = .ok (.iadd, 1) := by decide +kernel
theorem dLW_law_473 : decode cLW_law 473 = .ok (.iaload, 1) := by decide +kernel
theorem dLW_law_474 : decode cLW_law 474 = .ok (.invokevirtual 67, 3) := by decide +kernel
theorem dLW_law_477 : decode cLW_law 477 = .ok (.if_icmp .eq 28, 3) := by decide +kernel
theorem dLW_law_480 : decode cLW_law 480 = .ok (.iconst 0, 1) := by decide +kernel
theorem dLW_law_481 : decode cLW_law 481 = .ok (.ireturn, 1) := by decide +kernel
theorem dLW_law_482 : decode cLW_law 482 = .ok (.aload_n 1, 1) := by decide +kernel
theorem dLW_law_483 : decode cLW_law 483 = .ok (.aload_n 0, 1) := by decide +kernel
theorem dLW_law_484 : decode cLW_law 484 = .ok (.iload_n 3, 1) := by decide +kernel
theorem dLW_law_485 : decode cLW_law 485 = .ok (.iconst 1, 1) := by decide +kernel
theorem dLW_law_486 : decode cLW_law 486 = .ok (.iadd, 1) := by decide +kernel
theorem dLW_law_487 : decode cLW_law 487 = .ok (.iaload, 1) := by decide +kernel
theorem dLW_law_488 : decode cLW_law 488 = .ok (.invokevirtual 68, 3) := by decide +kernel
theorem dLW_law_491 : decode cLW_law 491 = .ok (.aload_n 2, 1) := by decide +kernel
theorem dLW_law_492 : decode cLW_law 492 = .ok (.aload_n 0, 1) := by decide +kernel
theorem dLW_law_493 : decode cLW_law 493 = .ok (.iload_n 3, 1) := by decide +kernel
theorem dLW_law_494 : decode cLW_law 494 = .ok (.iconst 1, 1) := by decide +kernel
theorem dLW_law_495 : decode cLW_law 495 = .ok (.iadd, 1) := by decide +kernel
theorem dLW_law_496 : decode cLW_law 496 = .ok (.iaload, 1) := by decide +kernel
theorem dLW_law_497 : decode cLW_law 497 = .ok (.invokevirtual 71, 3) := by decide +kernel
theorem dLW_law_500 : decode cLW_law 500 = .ok (.if_icmp .eq 5, 3) := by decide +kernel
theorem dLW_law_503 : decode cLW_law 503 = .ok (.iconst 0, 1) := by decide +kernel
theorem dLW_law_504 : decode cLW_law 504 = .ok (.ireturn, 1) := by decide +kernel
theorem dLW_law_505 : decode cLW_law 505 = .ok (.iinc 3 5, 3) := by decide +kernel
theorem dLW_law_508 : decode cLW_law 508 = .ok (.goto (-490), 3) := by decide +kernel
theorem dLW_law_511 : decode cLW_law 511 = .ok (.iconst 1, 1) := by decide +kernel
theorem dLW_law_512 : decode cLW_law 512 = .ok (.ireturn, 1) := by decide +kernel
end
section
/-! ===== Int32 by its bits: bt x i ===== -/
def bt (x : Int32) (i : Nat) : Bool := x.toBitVec.getLsbD i
theorem b_ext {x y : Int32} (h : ∀ i, i < 32 → bt x i = bt y i) : x = y := Int32.toBitVec_inj.mp (BitVec.eq_of_getLsbD_eq (fun i hi => h i hi))
theorem b_or (x y : Int32) (i : Nat) : bt (x ||| y) i = (bt x i || bt y i) := by unfold bt; rw [Int32.toBitVec_or, BitVec.getLsbD_or]
theorem b_and (x y : Int32) (i : Nat) : bt (x &&& y) i = (bt x i && bt y i) := by unfold bt; rw [Int32.toBitVec_and, BitVec.getLsbD_and]
theorem b_xor (x y : Int32) (i : Nat) : bt (x ^^^ y) i = (bt x i ^^ bt y i) := by unfold bt; rw [Int32.toBitVec_xor, BitVec.getLsbD_xor]
theorem b_big {x : Int32} {i : Nat} (h : 32 ≤ i) : bt x i = false := BitVec.getLsbD_of_ge _ _ h
theorem b_255 (i : Nat) : bt 255 i = decide (i < 8) := by
  rcases Nat.lt_or_ge i 32 with h | h
  · exact (by decide +kernel : ∀ i, i < 32 → bt 255 i = decide (i < 8)) i h
  · rw [b_big h, decide_eq_false (by omega)]
theorem b_65535 (i : Nat) : bt 65535 i = decide (i < 16) := by
  rcases Nat.lt_or_ge i 32 with h | h
  · exact (by decide +kernel : ∀ i, i < 32 → bt 65535 i = decide (i < 16)) i h
  · rw [b_big h, decide_eq_false (by omega)]
theorem b_m1 : ∀ i, i < 32 → bt (-1) i = true := by decide +kernel
theorem b_0 (i : Nat) : bt 0 i = false := BitVec.getLsbD_zero
theorem s_l : ∀ n, n < 32 → ((nI n &&& 31).toBitVec.smod 32).toNat = n := by decide +kernel
theorem s_u : ∀ n, n < 32 → (((nI n).toUInt32 &&& Int32.toUInt32 31).toBitVec % 32).toNat = n := by decide +kernel
theorem b_shl (n : Nat) (hn : n < 32) (x : Int32) {i : Nat} (hi : i < 32) : bt (x <<< (nI n &&& 31)) i = (decide (n ≤ i) && bt x (i - n)) := by
  unfold bt
  rw [Int32.toBitVec_shiftLeft]
  show (x.toBitVec <<< ((nI n &&& 31).toBitVec.smod 32).toNat).getLsbD i = _
  rw [s_l n hn, BitVec.getLsbD_shiftLeft]
  rcases Nat.lt_or_ge i n with h | h
  · simp [h, Nat.not_le.mpr h]
  · simp [hi, h, Nat.not_lt.mpr h]
theorem b_ushr (n : Nat) (hn : n < 32) (x : Int32) (i : Nat) : bt ((x.toUInt32 >>> ((nI n).toUInt32 &&& Int32.toUInt32 31)).toInt32) i = bt x (n + i) := by
  show (x.toUInt32 >>> ((nI n).toUInt32 &&& Int32.toUInt32 31)).toBitVec.getLsbD i = x.toUInt32.toBitVec.getLsbD (n + i)
  rw [UInt32.toBitVec_shiftRight]
  show (x.toUInt32.toBitVec >>> (((nI n).toUInt32 &&& Int32.toUInt32 31).toBitVec % 32).toNat).getLsbD i = _
  rw [s_u n hn, BitVec.getLsbD_ushiftRight]
theorem b_sshr (n : Nat) (hn : n < 32) (x : Int32) {i : Nat} (hi : i < 32) : bt (x >>> (nI n &&& 31)) i = if n + i < 32 then bt x (n + i) else bt x 31 := by
  unfold bt
  rw [Int32.toBitVec_shiftRight]
  show (x.toBitVec.sshiftRight ((nI n &&& 31).toBitVec.smod 32).toNat).getLsbD i = _
  rw [s_l n hn, BitVec.getLsbD_sshiftRight, BitVec.msb_eq_getLsbD_last]
  simp [hi]
theorem b_shl8 (x : Int32) {i : Nat} (hi : i < 32) : bt (x <<< ((8 : Int32) &&& 31)) i = (decide (8 ≤ i) && bt x (i - 8)) := b_shl 8 (by omega) x hi
theorem b_shl16 (x : Int32) {i : Nat} (hi : i < 32) : bt (x <<< ((16 : Int32) &&& 31)) i = (decide (16 ≤ i) && bt x (i - 16)) := b_shl 16 (by omega) x hi
theorem b_shl24 (x : Int32) {i : Nat} (hi : i < 32) : bt (x <<< ((24 : Int32) &&& 31)) i = (decide (24 ≤ i) && bt x (i - 24)) := b_shl 24 (by omega) x hi
theorem b_sshr8 (x : Int32) {i : Nat} (hi : i < 32) : bt (x >>> ((8 : Int32) &&& 31)) i = if 8 + i < 32 then bt x (8 + i) else bt x 31 := b_sshr 8 (by omega) x hi
/-! WHAT THE CLASS'S METHODS DO, as functions over its state -/
/-- the class's state: arrays of ints, arrays of numbers, arrays of tools or none, counts -/
abbrev tcS : Type := (Nat → Nat → Int32) × (Nat → Nat → Nat) × (Nat → Nat → Option Nat) × (Nat → Nat)
def tc_s1 (σ : tcS) (k : Nat) (f : Nat → Int32) : tcS := (va_up σ.1 k f, σ.2)
def tc_s2 (σ : tcS) (k : Nat) (f : Nat → Nat) : tcS := (σ.1, va_up σ.2.1 k f, σ.2.2)
def tc_s3 (σ : tcS) (k : Nat) (f : Nat → Option Nat) : tcS := (σ.1, σ.2.1, va_up σ.2.2.1 k f, σ.2.2.2)
def tc_s4 (σ : tcS) (k n : Nat) : tcS := (σ.1, σ.2.1, σ.2.2.1, va_up σ.2.2.2 k n)
def tc_oI (o : Option Nat) : Int32 := match o with
  | none => -1
  | some k => nI k
def tc_b2 (b : Bool) : Int32 := cond b 1 0
theorem tc_rb {b b' : Bool} (e : b = b') : (some (.inl (tc_b2 b)) : Option tcV) = some (.inl (tc_b2 b')) := by rw [e]
theorem tc_ri {x y : Int32} (e : x = y) : (some (.inl x) : Option tcV) = some (.inl y) := by rw [e]
/-- the first of n places from k on -/
def tc_ff (p : Nat → Bool) : Nat → Nat → Option Nat
  | 0, _ => none
  | n + 1, k => if p k = true then some k else tc_ff p n (k + 1)
/-- bits 0 .. n-1 -/
def tc_mk (f : Nat → Bool) : Nat → Int32
  | 0 => 0
  | n + 1 => if f n = true then tc_mk f n ||| ((1 : Int32) <<< (nI n &&& 31)) else tc_mk f n
/-- n steps upwards from j -/
def tc_up {α : Type} (f : Nat → α → α) : Nat → Nat → α → α
  | 0, _, a => a
  | n + 1, j, a => tc_up f n (j + 1) (f j a)
/-- n steps downwards from j -/
def tc_dn {α : Type} (f : Nat → α → α) : Nat → Nat → α → α
  | 0, _, a => a
  | n + 1, j, a => tc_dn f n (j - 1) (f j a)
def tc_fill {α : Type} (n : Nat) (v : α) (f : Nat → α) : Nat → α := fun j => if j < n then v else f j
def tc_isN (x : Int32) (n : Nat) : Bool := decide (0 ≤ x ∧ x < nI n)
theorem tc_isN_neg {x : Int32} {n : Nat} (h : x < 0) : tc_isN x n = false := by
  refine decide_eq_false (fun q => ?_)
  have h1 := q.1
  rw [Int32.le_iff_toInt_le] at h1
  rw [Int32.lt_iff_toInt_lt] at h
  omega
theorem tc_isN_big {x : Int32} {n : Nat} (h : nI n ≤ x) : tc_isN x n = false := by
  refine decide_eq_false (fun q => ?_)
  have h1 := q.2
  rw [Int32.lt_iff_toInt_lt] at h1
  rw [Int32.le_iff_toInt_le] at h
  omega
theorem tc_isN_in {x : Int32} {n : Nat} (h1 : ¬ x < 0) (h2 : ¬ nI n ≤ x) : tc_isN x n = true := by
  refine decide_eq_true ⟨?_, ?_⟩
  · rw [Int32.lt_iff_toInt_lt] at h1
    rw [Int32.le_iff_toInt_le]
    omega
  · rw [Int32.le_iff_toInt_le] at h2
    rw [Int32.lt_iff_toInt_lt]
    omega
theorem tc_isN_ex {x : Int32} {n : Nat} (hn : n < 2 ^ 31) (h : tc_isN x n = true) : ∃ k, k < n ∧ x = nI k := by
  obtain ⟨h1, h2⟩ := of_decide_eq_true h
  rcases pk_ix x hn with q | q | q
  · rw [Int32.lt_iff_toInt_lt] at q
    rw [Int32.le_iff_toInt_le] at h1
    omega
  · rw [Int32.le_iff_toInt_le] at q
    rw [Int32.lt_iff_toInt_lt] at h2
    omega
  · exact q
theorem tc_isN_nI {k n : Nat} (hk : k < n) (hn : n < 2 ^ 31) : tc_isN (nI k) n = true := tc_isN_in (nI_pos (by omega)) (nI_ge hk hn)
/-! bits -/
theorem tc_bit {x : Int32} {k : Nat} (hk : k < 32) : ((x.toUInt32 >>> ((nI k).toUInt32 &&& Int32.toUInt32 31)).toInt32 &&& 1) = 0 ↔ bt x k = false := by
  have e1 : ∀ i, i < 32 → bt 1 i = decide (i = 0) := by decide +kernel
  constructor
  · intro h
    have h0 : bt ((x.toUInt32 >>> ((nI k).toUInt32 &&& Int32.toUInt32 31)).toInt32 &&& 1) 0 = bt 0 0 := by rw [h]
    rw [b_and, b_ushr k hk, b_0, e1 0 (by omega)] at h0
    simpa using h0
  · intro h
    refine b_ext (fun i hi => ?_)
    rw [b_and, b_ushr k hk, b_0, e1 i hi]
    by_cases h0 : i = 0
    · subst h0
      simpa using h
    · simp [h0]
theorem tc_one {k i : Nat} (hk : k < 32) (hi : i < 32) : bt ((1 : Int32) <<< (nI k &&& 31)) i = decide (i = k) := by
  have e1 : ∀ i, i < 32 → bt 1 i = decide (i = 0) := by decide +kernel
  rw [b_shl k hk 1 hi]
  by_cases h : k ≤ i
  · rw [e1 (i - k) (by omega)]
    by_cases h2 : i = k
    · subst h2
      simp
    · have : ¬ (i - k = 0) := by omega
      simp [this, h2]
  · have : ¬ i = k := by omega
    simp [h, this]
theorem tc_not {x : Int32} {i : Nat} (hi : i < 32) : bt (x ^^^ (-1)) i = !bt x i := by
  rw [b_xor, b_m1 i hi]
  simp
theorem tc_mk_bt {f : Nat → Bool} : ∀ {n i : Nat}, n ≤ 32 → i < 32 → bt (tc_mk f n) i = (decide (i < n) && f i)
  | 0, i, _, _ => by simp [tc_mk, b_0]
  | n + 1, i, hn, hi => by
    have ih := tc_mk_bt (f := f) (n := n) (i := i) (by omega) hi
    unfold tc_mk
    by_cases h2 : i = n
    · subst h2
      by_cases hf : f i = true
      · rw [if_pos hf, b_or, tc_one hi hi]
        simp [hf]
      · rw [if_neg hf, ih]
        simp [hf]
    · have h3 : decide (i < n + 1) = decide (i < n) := by
        have : (i < n + 1) ↔ (i < n) := by omega
        simp [this]
      by_cases hf : f n = true
      · rw [if_pos hf, b_or, ih, tc_one (by omega) hi, h3]
        simp [h2]
      · rw [if_neg hf, ih, h3]
theorem tc_z {x : Int32} : x = 0 ↔ ∀ i, i < 32 → bt x i = false := by
  constructor
  · intro h i _
    rw [h, b_0]
  · intro h
    exact b_ext (fun i hi => by rw [h i hi, b_0])
/-! the class -/
/-- a wish that a platform's constraints meet -/
def tc_fit (w h : Int32) : Bool := decide (w &&& (h ^^^ (-1)) = 0)
def tc_phav (σ : tcS) (w : Int32) : Int32 := tc_mk (fun p => tc_fit w (σ.1 0 p)) (σ.2.2.2 0)
def tc_unb (σ : tcS) (t : Nat) : Int32 := σ.1 5 t &&& (σ.1 7 t ^^^ (-1))
def tc_pws (r nk : Int32) (sup : Nat → Int32) : Nat → Int32
  | 0 => r
  | k + 1 => if bt nk k = true then tc_pws r nk sup k &&& sup k else tc_pws r nk sup k
def tc_gb (t : Nat) (a : tcS × Bool) : tcS × Bool :=
  if tc_pws (a.1.1 5 t) (a.1.1 4 t) (a.1.1 8) 8 = a.1.1 7 t then a
  else (tc_s1 (tc_s1 a.1 7 (upd (a.1.1 7) t (tc_pws (a.1.1 5 t) (a.1.1 4 t) (a.1.1 8) 8))) 8 (upd (a.1.1 8) (a.1.2.1 0 t) (a.1.1 8 (a.1.2.1 0 t) ||| a.1.1 6 t)), true)
def tc_grow (σ : tcS) : tcS × Bool := tc_up tc_gb (σ.2.2.2 1) 0 (σ, false)
def tc_i0 (t : Nat) (σ : tcS) : tcS := tc_s1 (tc_s1 (tc_s1 σ 5 (upd (σ.1 5) t (tc_phav σ (σ.1 1 t)))) 6 (upd (σ.1 6) t (tc_phav σ (σ.1 2 t)))) 7 (upd (σ.1 7) t 0)
def tc_pass : Nat → tcS × Bool → tcS
  | 0, a => a.1
  | n + 1, a => if a.2 = true then tc_pass n (tc_grow a.1) else a.1
def tc_settle (σ : tcS) : tcS := tc_pass (σ.2.2.2 1 + 1) (tc_s1 (tc_up tc_i0 (σ.2.2.2 1) 0 σ) 8 (tc_fill 8 0 ((tc_up tc_i0 (σ.2.2.2 1) 0 σ).1 8)), true)
def tc_steps (σ : tcS) (t : Nat) : Int32 := tc_mk (fun n => bt (σ.1 4 t) (σ.2.1 0 n) && (!decide (σ.1 6 n &&& tc_unb σ t = 0) && !decide (tc_unb σ n = 0))) (σ.2.2.2 1)
def tc_l0 (t : Nat) (σ : tcS) : tcS := tc_s1 σ 9 (upd (σ.1 9) t (tc_steps σ t))
def tc_l1 (m t : Nat) (σ : tcS) : tcS := if bt (σ.1 9 t) m = true then tc_s1 σ 9 (upd (σ.1 9) t (σ.1 9 t ||| σ.1 9 m)) else σ
def tc_l2 (m : Nat) (σ : tcS) : tcS := tc_up (tc_l1 m) (σ.2.2.2 1) 0 σ
def tc_leads (σ : tcS) : tcS := tc_up tc_l2 (σ.2.2.2 1) 0 (tc_up tc_l0 (σ.2.2.2 1) 0 σ)
/-- ring: before, then the tools from t on -/
def tc_ringF (σ : tcS) (i : Int32) : Nat → Nat → Nat → Int32
  | 0, _, _ => -1
  | n + 1, t, b => if bt (σ.1 9 t) t = true then (if nI b = i then nI t else tc_ringF σ i n (t + 1) (b + 1)) else tc_ringF σ i n (t + 1) b
def tc_why (σ : tcS) (t h g : Nat) : Nat :=
  if ¬ σ.2.2.1 0 (σ.2.1 0 t) = none ∧ ¬ σ.2.2.1 0 (σ.2.1 0 t) = some t then 1
  else if σ.1 3 t < σ.1 10 (σ.2.1 0 t) then 2
  else if bt (σ.1 5 t) h = false then 3
  else if bt (σ.1 6 t) g = false then 4
  else if bt (σ.1 7 t) h = true then 0 else 5
def tc_lack (σ : tcS) (w t h g : Nat) : Option Nat :=
  if w = 3 then tc_ff (bt (σ.1 1 t &&& (σ.1 0 h ^^^ (-1)))) 32 0
  else if w = 4 then tc_ff (bt (σ.1 2 t &&& (σ.1 0 g ^^^ (-1)))) 32 0
  else if w = 5 then tc_ff (fun k => bt (σ.1 4 t) k && !bt (σ.1 8 k) h) 8 0
  else none
def tc_w1 (σ : tcS) (j : Nat) (x : Int32) : tcS := tc_s1 σ 12 (upd (σ.1 12) j x)
def tc_add (σ : tcS) (h t w : Nat) (k : Option Nat) : tcS := if 144 ≤ σ.2.2.2 4 then σ else
  tc_s4 (tc_w1 (tc_w1 (tc_w1 (tc_w1 σ (σ.2.2.2 4 * 4) (nI h)) (σ.2.2.2 4 * 4 + 1) (nI t)) (σ.2.2.2 4 * 4 + 2) (nI w)) (σ.2.2.2 4 * 4 + 3) (tc_oI k)) 4 (σ.2.2.2 4 + 1)
def tc_cell (σ : tcS) (i w : Int32) : Int32 := if tc_isN i (σ.2.2.2 4) = true ∧ tc_isN w 4 = true then σ.1 12 (i.toNatClampNeg * 4 + w.toNatClampNeg) else -1
/-- firstGood: n places from i on -/
def tc_fg (k h g : Nat) : Nat → Nat → tcS → Option Nat × tcS
  | 0, _, σ => (none, σ)
  | n + 1, i, σ => if σ.2.1 0 (σ.2.1 1 i) = k then
      (if tc_why σ (σ.2.1 1 i) h g = 0 then (some (σ.2.1 1 i), tc_add σ h (σ.2.1 1 i) (tc_why σ (σ.2.1 1 i) h g) (tc_lack σ (tc_why σ (σ.2.1 1 i) h g) (σ.2.1 1 i) h g))
       else tc_fg k h g n (i + 1) (tc_add σ h (σ.2.1 1 i) (tc_why σ (σ.2.1 1 i) h g) (tc_lack σ (tc_why σ (σ.2.1 1 i) h g) (σ.2.1 1 i) h g)))
    else tc_fg k h g n (i + 1) σ
def tc_ts (h g k : Nat) (σ : tcS) : tcS := tc_s3 (tc_fg k h g (σ.2.2.2 1) 0 σ).2 1 (va_up ((tc_fg k h g (σ.2.2.2 1) 0 σ).2.2.2.1 1) k (tc_fg k h g (σ.2.2.2 1) 0 σ).1)
/-- takeTools: n asked ones from i on -/
def tc_tt (h g : Nat) : Nat → Nat → tcS → Bool × tcS
  | 0, _, σ => (true, σ)
  | n + 1, i, σ =>
    if (tc_fg (σ.2.1 2 i) h g (σ.2.2.2 1) 0 σ).1 = none ∧ ¬ σ.1 11 (σ.2.1 2 i) = 0 then (false, tc_ts h g (σ.2.1 2 i) σ)
    else tc_tt h g n (i + 1) (tc_ts h g (σ.2.1 2 i) σ)
def tc_t0 (σ : tcS) : tcS := tc_s3 σ 1 (tc_fill 8 none (σ.2.2.1 1))
def tc_take (h g : Nat) (σ : tcS) : Bool × tcS := tc_tt h g (σ.2.2.2 3) 0 (tc_t0 σ)
/-- choose: n hosts from h on -/
def tc_ch (g : Nat) : Nat → Nat → tcS → Option Nat × tcS
  | 0, _, σ => (none, tc_t0 σ)
  | n + 1, h, σ => if (tc_take h g σ).1 = true then (some h, (tc_take h g σ).2) else tc_ch g n (h + 1) (tc_take h g σ).2
def tc_choose (g : Nat) (σ : tcS) : Option Nat × tcS := tc_ch g (σ.2.2.2 0) 0 (tc_s4 (tc_settle σ) 4 0)
def tc_find (σ : tcS) (k : Nat) : Option Nat := tc_ff (fun i => decide (σ.2.1 2 i = k)) (σ.2.2.2 3) 0
def tc_put (σ : tcS) (k : Nat) (v b : Int32) : tcS :=
  tc_s1 (tc_s1 (if tc_find σ k = none ∧ σ.2.2.2 3 < 8 then tc_s4 (tc_s2 σ 2 (va_up (σ.2.1 2) (σ.2.2.2 3) k)) 3 (σ.2.2.2 3 + 1) else σ) 10 (upd (σ.1 10) k v)) 11 (upd (σ.1 11) k b)
def tc_rmB (j : Nat) (ρ : tcS) : tcS := tc_s2 ρ 2 (va_up (ρ.2.1 2) j (ρ.2.1 2 (j + 1)))
def tc_rem (σ : tcS) (k : Nat) : Bool × tcS := match tc_find σ k with
  | none => (false, σ)
  | some i => (true, tc_up tc_rmB (σ.2.2.2 3 - 1 - i) i (tc_s4 σ 3 (σ.2.2.2 3 - 1)))
/-- order: the place of a tool, then the others moved by one -/
def tc_place (σ : tcS) (t : Nat) : Nat → Nat → Nat
  | 0, i => i
  | n + 1, i => if σ.2.1 1 i = t then i else tc_place σ t n (i + 1)
def tc_o1 (j : Nat) (ρ : tcS) : tcS := tc_s2 ρ 1 (va_up (ρ.2.1 1) j (ρ.2.1 1 (j + 1)))
def tc_o2 (j : Nat) (ρ : tcS) : tcS := tc_s2 ρ 1 (va_up (ρ.2.1 1) j (ρ.2.1 1 (j - 1)))
def tc_o3 (t p : Nat) (ρ : tcS) : tcS := tc_s2 ρ 1 (va_up (ρ.2.1 1) p t)
def tc_from (σ : tcS) (t : Nat) : Nat := tc_place σ t (σ.2.2.2 1 - 1) 0
def tc_order (σ : tcS) (t p : Nat) : tcS := tc_o3 t p (tc_dn tc_o2 (tc_from σ t - p) (tc_from σ t) (tc_up tc_o1 (p - tc_from σ t) (tc_from σ t) σ))
/-! the public ones -/
def tc_platform (σ : tcS) (c : Int32) : Option Nat × tcS := if 6 ≤ σ.2.2.2 0 then (none, σ) else (some (σ.2.2.2 0), tc_s4 (tc_s1 σ 0 (upd (σ.1 0) (σ.2.2.2 0) c)) 0 (σ.2.2.2 0 + 1))
def tc_tool (σ : tcS) (k : Nat) (r m v : Int32) : Option Nat × tcS := if 24 ≤ σ.2.2.2 1 then (none, σ) else (some (σ.2.2.2 1),
  tc_s4 (tc_s2 (tc_s1 (tc_s1 (tc_s1 (tc_s2 σ 0 (va_up (σ.2.1 0) (σ.2.2.2 1) k)) 1 (upd (σ.1 1) (σ.2.2.2 1) r)) 2 (upd (σ.1 2) (σ.2.2.2 1) m)) 3 (upd (σ.1 3) (σ.2.2.2 1) v)) 1 (va_up (σ.2.1 1) (σ.2.2.2 1) (σ.2.2.2 1))) 1 (σ.2.2.2 1 + 1))
def tc_needs (σ : tcS) (t k : Nat) : Bool × tcS := if bt (σ.1 4 t) k = true ∨ 40 ≤ σ.2.2.2 2 then (false, σ) else (true, tc_s4 (tc_s1 σ 4 (upd (σ.1 4) t (σ.1 4 t ||| ((1 : Int32) <<< (nI k &&& 31))))) 2 (σ.2.2.2 2 + 1))
end
section
def tc_hC (σ : tcS) : List tcC := [
  .inr (2, [.inr (some 1), .inl (nI (σ.2.2.2 0)), .inr (some 2), .inr (some 3), .inr (some 4), .inr (some 5), .inr (some 6), .inr (some 7), .inl (nI (σ.2.2.2 1)), .inl (nI (σ.2.2.2 2)), .inr (some 8), .inr (some 12), .inr (some 13), .inr (some 14), .inr (some 16), .inr (some 17), .inr (some 18), .inr (some 19), .inr (some 20)]),
  .inl (0, 6, .inl (σ.1 0)),
  .inl (0, 24, .inl (fun j => nI (σ.2.1 0 j))),
  .inl (0, 24, .inl (σ.1 1)),
  .inl (0, 24, .inl (σ.1 2)),
  .inl (0, 24, .inl (σ.1 3)),
  .inl (0, 24, .inl (σ.1 4)),
  .inl (0, 24, .inl (fun j => nI (σ.2.1 1 j))),
  .inr (0, [.inr (some 9), .inr (some 10), .inr (some 11), .inl (nI (σ.2.2.2 3))]),
  .inl (0, 8, .inl (fun j => nI (σ.2.1 2 j))),
  .inl (0, 8, .inl (σ.1 10)),
  .inl (1, 8, .inl (σ.1 11)),
  .inl (0, 8, .inl (fun j => tc_oI (σ.2.2.1 0 j))),
  .inl (0, 8, .inl (fun j => tc_oI (σ.2.2.1 1 j))),
  .inr (1, [.inr (some 15), .inl (nI (σ.2.2.2 4))]),
  .inl (0, 576, .inl (σ.1 12)),
  .inl (0, 24, .inl (σ.1 5)),
  .inl (0, 24, .inl (σ.1 6)),
  .inl (0, 24, .inl (σ.1 7)),
  .inl (0, 8, .inl (σ.1 8)),
  .inl (0, 24, .inl (σ.1 9))]
section CW
variable {M : tcM} {K : tcK} {nc ns pc : Nat} {L : List (Option tcV)} {st : List tcV}
theorem tc_upd2 {f : Nat → Nat} {t v : Nat} : upd (fun j => nI (f j)) t (nI v) = fun j => nI (va_up f t v j) := by
  funext j
  unfold upd va_up
  split <;> rfl
theorem tc_upd3 {f : Nat → Option Nat} {t : Nat} {v : Option Nat} : upd (fun j => tc_oI (f j)) t (tc_oI v) = fun j => tc_oI (va_up f t v j) := by
  funext j
  unfold upd va_up
  split <;> rfl
theorem ldC_1 {σ : tcS} {t : Nat} (hd : decode M.1 pc = .ok (.iaload, 1)) (ht : t < 6) (k : tc_V M K nc ns (tc_hC σ) (pc + 1) L (.inl (σ.1 0 t) :: st)) : tc_V M K nc ns (tc_hC σ) pc L (.inl (nI t) :: .inr (some 1) :: st) := tv_ialdN hd rfl (by decide) ht k
theorem stC_1 {σ : tcS} {t : Nat} {x : Int32} (hd : decode M.1 pc = .ok (.iastore, 1)) (ht : t < 6) (k : tc_V M K nc ns (tc_hC (tc_s1 σ 0 (upd (σ.1 0) t x))) (pc + 1) L st) : tc_V M K nc ns (tc_hC σ) pc L (.inl x :: .inl (nI t) :: .inr (some 1) :: st) := tv_iastN hd rfl (by decide) ht rfl k
theorem ldC_2 {σ : tcS} {t : Nat} (hd : decode M.1 pc = .ok (.iaload, 1)) (ht : t < 24) (k : tc_V M K nc ns (tc_hC σ) (pc + 1) L (.inl (nI (σ.2.1 0 t)) :: st)) : tc_V M K nc ns (tc_hC σ) pc L (.inl (nI t) :: .inr (some 2) :: st) := tv_ialdN hd rfl (by decide) ht k
theorem stC_2 {σ : tcS} {t v : Nat} (hd : decode M.1 pc = .ok (.iastore, 1)) (ht : t < 24) (k : tc_V M K nc ns (tc_hC (tc_s2 σ 0 (va_up (σ.2.1 0) t v))) (pc + 1) L st) : tc_V M K nc ns (tc_hC σ) pc L (.inl (nI v) :: .inl (nI t) :: .inr (some 2) :: st) := tv_iastN hd rfl (by decide) ht (by rw [tc_upd2]; rfl) k
theorem ldC_3 {σ : tcS} {t : Nat} (hd : decode M.1 pc = .ok (.iaload, 1)) (ht : t < 24) (k : tc_V M K nc ns (tc_hC σ) (pc + 1) L (.inl (σ.1 1 t) :: st)) : tc_V M K nc ns (tc_hC σ) pc L (.inl (nI t) :: .inr (some 3) :: st) := tv_ialdN hd rfl (by decide) ht k
theorem stC_3 {σ : tcS} {t : Nat} {x : Int32} (hd : decode M.1 pc = .ok (.iastore, 1)) (ht : t < 24) (k : tc_V M K nc ns (tc_hC (tc_s1 σ 1 (upd (σ.1 1) t x))) (pc + 1) L st) : tc_V M K nc ns (tc_hC σ) pc L (.inl x :: .inl (nI t) :: .inr (some 3) :: st) := tv_iastN hd rfl (by decide) ht rfl k
theorem ldC_4 {σ : tcS} {t : Nat} (hd : decode M.1 pc = .ok (.iaload, 1)) (ht : t < 24) (k : tc_V M K nc ns (tc_hC σ) (pc + 1) L (.inl (σ.1 2 t) :: st)) : tc_V M K nc ns (tc_hC σ) pc L (.inl (nI t) :: .inr (some 4) :: st) := tv_ialdN hd rfl (by decide) ht k
theorem stC_4 {σ : tcS} {t : Nat} {x : Int32} (hd : decode M.1 pc = .ok (.iastore, 1)) (ht : t < 24) (k : tc_V M K nc ns (tc_hC (tc_s1 σ 2 (upd (σ.1 2) t x))) (pc + 1) L st) : tc_V M K nc ns (tc_hC σ) pc L (.inl x :: .inl (nI t) :: .inr (some 4) :: st) := tv_iastN hd rfl (by decide) ht rfl k
theorem ldC_5 {σ : tcS} {t : Nat} (hd : decode M.1 pc = .ok (.iaload, 1)) (ht : t < 24) (k : tc_V M K nc ns (tc_hC σ) (pc + 1) L (.inl (σ.1 3 t) :: st)) : tc_V M K nc ns (tc_hC σ) pc L (.inl (nI t) :: .inr (some 5) :: st) := tv_ialdN hd rfl (by decide) ht k
theorem stC_5 {σ : tcS} {t : Nat} {x : Int32} (hd : decode M.1 pc = .ok (.iastore, 1)) (ht : t < 24) (k : tc_V M K nc ns (tc_hC (tc_s1 σ 3 (upd (σ.1 3) t x))) (pc + 1) L st) : tc_V M K nc ns (tc_hC σ) pc L (.inl x :: .inl (nI t) :: .inr (some 5) :: st) := tv_iastN hd rfl (by decide) ht rfl k
theorem ldC_6 {σ : tcS} {t : Nat} (hd : decode M.1 pc = .ok (.iaload, 1)) (ht : t < 24) (k : tc_V M K nc ns (tc_hC σ) (pc + 1) L (.inl (σ.1 4 t) :: st)) : tc_V M K nc ns (tc_hC σ) pc L (.inl (nI t) :: .inr (some 6) :: st) := tv_ialdN hd rfl (by decide) ht k
theorem stC_6 {σ : tcS} {t : Nat} {x : Int32} (hd : decode M.1 pc = .ok (.iastore, 1)) (ht : t < 24) (k : tc_V M K nc ns (tc_hC (tc_s1 σ 4 (upd (σ.1 4) t x))) (pc + 1) L st) : tc_V M K nc ns (tc_hC σ) pc L (.inl x :: .inl (nI t) :: .inr (some 6) :: st) := tv_iastN hd rfl (by decide) ht rfl k
theorem ldC_7 {σ : tcS} {t : Nat} (hd : decode M.1 pc = .ok (.iaload, 1)) (ht : t < 24) (k : tc_V M K nc ns (tc_hC σ) (pc + 1) L (.inl (nI (σ.2.1 1 t)) :: st)) : tc_V M K nc ns (tc_hC σ) pc L (.inl (nI t) :: .inr (some 7) :: st) := tv_ialdN hd rfl (by decide) ht k
theorem stC_7 {σ : tcS} {t v : Nat} (hd : decode M.1 pc = .ok (.iastore, 1)) (ht : t < 24) (k : tc_V M K nc ns (tc_hC (tc_s2 σ 1 (va_up (σ.2.1 1) t v))) (pc + 1) L st) : tc_V M K nc ns (tc_hC σ) pc L (.inl (nI v) :: .inl (nI t) :: .inr (some 7) :: st) := tv_iastN hd rfl (by decide) ht (by rw [tc_upd2]; rfl) k
theorem ldC_9 {σ : tcS} {t : Nat} (hd : decode M.1 pc = .ok (.iaload, 1)) (ht : t < 8) (k : tc_V M K nc ns (tc_hC σ) (pc + 1) L (.inl (nI (σ.2.1 2 t)) :: st)) : tc_V M K nc ns (tc_hC σ) pc L (.inl (nI t) :: .inr (some 9) :: st) := tv_ialdN hd rfl (by decide) ht k
theorem stC_9 {σ : tcS} {t v : Nat} (hd : decode M.1 pc = .ok (.iastore, 1)) (ht : t < 8) (k : tc_V M K nc ns (tc_hC (tc_s2 σ 2 (va_up (σ.2.1 2) t v))) (pc + 1) L st) : tc_V M K nc ns (tc_hC σ) pc L (.inl (nI v) :: .inl (nI t) :: .inr (some 9) :: st) := tv_iastN hd rfl (by decide) ht (by rw [tc_upd2]; rfl) k
theorem ldC_10 {σ : tcS} {t : Nat} (hd : decode M.1 pc = .ok (.iaload, 1)) (ht : t < 8) (k : tc_V M K nc ns (tc_hC σ) (pc + 1) L (.inl (σ.1 10 t) :: st)) : tc_V M K nc ns (tc_hC σ) pc L (.inl (nI t) :: .inr (some 10) :: st) := tv_ialdN hd rfl (by decide) ht k
theorem stC_10 {σ : tcS} {t : Nat} {x : Int32} (hd : decode M.1 pc = .ok (.iastore, 1)) (ht : t < 8) (k : tc_V M K nc ns (tc_hC (tc_s1 σ 10 (upd (σ.1 10) t x))) (pc + 1) L st) : tc_V M K nc ns (tc_hC σ) pc L (.inl x :: .inl (nI t) :: .inr (some 10) :: st) := tv_iastN hd rfl (by decide) ht rfl k
theorem ldC_11 {σ : tcS} {t : Nat} (hd : decode M.1 pc = .ok (.baload, 1)) (ht : t < 8) (k : tc_V M K nc ns (tc_hC σ) (pc + 1) L (.inl (σ.1 11 t) :: st)) : tc_V M K nc ns (tc_hC σ) pc L (.inl (nI t) :: .inr (some 11) :: st) := tv_zaldN hd rfl (by decide) ht k
theorem stC_11 {σ : tcS} {t : Nat} {x : Int32} (hd : decode M.1 pc = .ok (.bastore, 1)) (ht : t < 8) (hx : vp_nar .boolean x = x) (k : tc_V M K nc ns (tc_hC (tc_s1 σ 11 (upd (σ.1 11) t x))) (pc + 1) L st) : tc_V M K nc ns (tc_hC σ) pc L (.inl x :: .inl (nI t) :: .inr (some 11) :: st) := tv_zastN hd rfl (by decide) ht hx rfl k
theorem ldC_12 {σ : tcS} {t : Nat} (hd : decode M.1 pc = .ok (.iaload, 1)) (ht : t < 8) (k : tc_V M K nc ns (tc_hC σ) (pc + 1) L (.inl (tc_oI (σ.2.2.1 0 t)) :: st)) : tc_V M K nc ns (tc_hC σ) pc L (.inl (nI t) :: .inr (some 12) :: st) := tv_ialdN hd rfl (by decide) ht k
theorem stC_12 {σ : tcS} {t : Nat} (v : Option Nat) (hd : decode M.1 pc = .ok (.iastore, 1)) (ht : t < 8) (k : tc_V M K nc ns (tc_hC (tc_s3 σ 0 (va_up (σ.2.2.1 0) t v))) (pc + 1) L st) : tc_V M K nc ns (tc_hC σ) pc L (.inl (tc_oI v) :: .inl (nI t) :: .inr (some 12) :: st) := tv_iastN hd rfl (by decide) ht (by rw [tc_upd3]; rfl) k
theorem ldC_13 {σ : tcS} {t : Nat} (hd : decode M.1 pc = .ok (.iaload, 1)) (ht : t < 8) (k : tc_V M K nc ns (tc_hC σ) (pc + 1) L (.inl (tc_oI (σ.2.2.1 1 t)) :: st)) : tc_V M K nc ns (tc_hC σ) pc L (.inl (nI t) :: .inr (some 13) :: st) := tv_ialdN hd rfl (by decide) ht k
theorem stC_13 {σ : tcS} {t : Nat} (v : Option Nat) (hd : decode M.1 pc = .ok (.iastore, 1)) (ht : t < 8) (k : tc_V M K nc ns (tc_hC (tc_s3 σ 1 (va_up (σ.2.2.1 1) t v))) (pc + 1) L st) : tc_V M K nc ns (tc_hC σ) pc L (.inl (tc_oI v) :: .inl (nI t) :: .inr (some 13) :: st) := tv_iastN hd rfl (by decide) ht (by rw [tc_upd3]; rfl) k
theorem ldC_15 {σ : tcS} {t : Nat} (hd : decode M.1 pc = .ok (.iaload, 1)) (ht : t < 576) (k : tc_V M K nc ns (tc_hC σ) (pc + 1) L (.inl (σ.1 12 t) :: st)) : tc_V M K nc ns (tc_hC σ) pc L (.inl (nI t) :: .inr (some 15) :: st) := tv_ialdN hd rfl (by decide) ht k
theorem stC_15 {σ : tcS} {t : Nat} {x : Int32} (hd : decode M.1 pc = .ok (.iastore, 1)) (ht : t < 576) (k : tc_V M K nc ns (tc_hC (tc_s1 σ 12 (upd (σ.1 12) t x))) (pc + 1) L st) : tc_V M K nc ns (tc_hC σ) pc L (.inl x :: .inl (nI t) :: .inr (some 15) :: st) := tv_iastN hd rfl (by decide) ht rfl k
theorem ldC_16 {σ : tcS} {t : Nat} (hd : decode M.1 pc = .ok (.iaload, 1)) (ht : t < 24) (k : tc_V M K nc ns (tc_hC σ) (pc + 1) L (.inl (σ.1 5 t) :: st)) : tc_V M K nc ns (tc_hC σ) pc L (.inl (nI t) :: .inr (some 16) :: st) := tv_ialdN hd rfl (by decide) ht k
theorem stC_16 {σ : tcS} {t : Nat} {x : Int32} (hd : decode M.1 pc = .ok (.iastore, 1)) (ht : t < 24) (k : tc_V M K nc ns (tc_hC (tc_s1 σ 5 (upd (σ.1 5) t x))) (pc + 1) L st) : tc_V M K nc ns (tc_hC σ) pc L (.inl x :: .inl (nI t) :: .inr (some 16) :: st) := tv_iastN hd rfl (by decide) ht rfl k
theorem ldC_17 {σ : tcS} {t : Nat} (hd : decode M.1 pc = .ok (.iaload, 1)) (ht : t < 24) (k : tc_V M K nc ns (tc_hC σ) (pc + 1) L (.inl (σ.1 6 t) :: st)) : tc_V M K nc ns (tc_hC σ) pc L (.inl (nI t) :: .inr (some 17) :: st) := tv_ialdN hd rfl (by decide) ht k
theorem stC_17 {σ : tcS} {t : Nat} {x : Int32} (hd : decode M.1 pc = .ok (.iastore, 1)) (ht : t < 24) (k : tc_V M K nc ns (tc_hC (tc_s1 σ 6 (upd (σ.1 6) t x))) (pc + 1) L st) : tc_V M K nc ns (tc_hC σ) pc L (.inl x :: .inl (nI t) :: .inr (some 17) :: st) := tv_iastN hd rfl (by decide) ht rfl k
theorem ldC_18 {σ : tcS} {t : Nat} (hd : decode M.1 pc = .ok (.iaload, 1)) (ht : t < 24) (k : tc_V M K nc ns (tc_hC σ) (pc + 1) L (.inl (σ.1 7 t) :: st)) : tc_V M K nc ns (tc_hC σ) pc L (.inl (nI t) :: .inr (some 18) :: st) := tv_ialdN hd rfl (by decide) ht k
theorem stC_18 {σ : tcS} {t : Nat} {x : Int32} (hd : decode M.1 pc = .ok (.iastore, 1)) (ht : t < 24) (k : tc_V M K nc ns (tc_hC (tc_s1 σ 7 (upd (σ.1 7) t x))) (pc + 1) L st) : tc_V M K nc ns (tc_hC σ) pc L (.inl x :: .inl (nI t) :: .inr (some 18) :: st) := tv_iastN hd rfl (by decide) ht rfl k
theorem ldC_19 {σ : tcS} {t : Nat} (hd : decode M.1 pc = .ok (.iaload, 1)) (ht : t < 8) (k : tc_V M K nc ns (tc_hC σ) (pc + 1) L (.inl (σ.1 8 t) :: st)) : tc_V M K nc ns (tc_hC σ) pc L (.inl (nI t) :: .inr (some 19) :: st) := tv_ialdN hd rfl (by decide) ht k
theorem stC_19 {σ : tcS} {t : Nat} {x : Int32} (hd : decode M.1 pc = .ok (.iastore, 1)) (ht : t < 8) (k : tc_V M K nc ns (tc_hC (tc_s1 σ 8 (upd (σ.1 8) t x))) (pc + 1) L st) : tc_V M K nc ns (tc_hC σ) pc L (.inl x :: .inl (nI t) :: .inr (some 19) :: st) := tv_iastN hd rfl (by decide) ht rfl k
theorem ldC_20 {σ : tcS} {t : Nat} (hd : decode M.1 pc = .ok (.iaload, 1)) (ht : t < 24) (k : tc_V M K nc ns (tc_hC σ) (pc + 1) L (.inl (σ.1 9 t) :: st)) : tc_V M K nc ns (tc_hC σ) pc L (.inl (nI t) :: .inr (some 20) :: st) := tv_ialdN hd rfl (by decide) ht k
theorem stC_20 {σ : tcS} {t : Nat} {x : Int32} (hd : decode M.1 pc = .ok (.iastore, 1)) (ht : t < 24) (k : tc_V M K nc ns (tc_hC (tc_s1 σ 9 (upd (σ.1 9) t x))) (pc + 1) L st) : tc_V M K nc ns (tc_hC σ) pc L (.inl x :: .inl (nI t) :: .inr (some 20) :: st) := tv_iastN hd rfl (by decide) ht rfl k
theorem gAK_22 {σ : tcS} (hM : M.2.2.1 = RAK) (hd : decode M.1 pc = .ok (.getfield 22, 3)) (k : tc_V M K nc ns (tc_hC σ) (pc + 3) L (.inl (nI (σ.2.2.2 3)) :: st)) : tc_V M K nc ns (tc_hC σ) pc L (.inr (some 8) :: st) := tv_get (by rw [hM]; exact fAK_22) hd rfl rfl k
theorem gAK_9 {σ : tcS} (hM : M.2.2.1 = RAK) (hd : decode M.1 pc = .ok (.getfield 9, 3)) (k : tc_V M K nc ns (tc_hC σ) (pc + 3) L (.inr (some 9) :: st)) : tc_V M K nc ns (tc_hC σ) pc L (.inr (some 8) :: st) := tv_get (by rw [hM]; exact fAK_9) hd rfl rfl k
theorem gAK_15 {σ : tcS} (hM : M.2.2.1 = RAK) (hd : decode M.1 pc = .ok (.getfield 15, 3)) (k : tc_V M K nc ns (tc_hC σ) (pc + 3) L (.inr (some 10) :: st)) : tc_V M K nc ns (tc_hC σ) pc L (.inr (some 8) :: st) := tv_get (by rw [hM]; exact fAK_15) hd rfl rfl k
theorem gAK_18 {σ : tcS} (hM : M.2.2.1 = RAK) (hd : decode M.1 pc = .ok (.getfield 18, 3)) (k : tc_V M K nc ns (tc_hC σ) (pc + 3) L (.inr (some 11) :: st)) : tc_V M K nc ns (tc_hC σ) pc L (.inr (some 8) :: st) := tv_get (by rw [hM]; exact fAK_18) hd rfl rfl k
theorem hhAK_22 {σ : tcS} {v : Nat} : (tc_hC σ).set 8 (.inr (0, [.inr (some 9), .inr (some 10), .inr (some 11), .inl (nI v)])) = tc_hC (tc_s4 σ 3 v) := by simp [tc_hC, tc_s4, va_up]
theorem pAK_22 {σ : tcS} {v : Nat} (hM : M.2.2.1 = RAK) (hd : decode M.1 pc = .ok (.putfield 22, 3)) (k : tc_V M K nc ns (tc_hC (tc_s4 σ 3 v)) (pc + 3) L st) : tc_V M K nc ns (tc_hC σ) pc L (.inl (nI v) :: .inr (some 8) :: st) := tv_put (fs' := [.inr (some 9), .inr (some 10), .inr (some 11), .inl (nI v)]) (by rw [hM]; exact fAK_22) ftAK rfl (by decide +kernel) hd rfl (Nat.le_of_ble_eq_true rfl) rfl hhAK_22 k
theorem hhRO_15 {σ : tcS} {v : Nat} : (tc_hC σ).set 14 (.inr (1, [.inr (some 15), .inl (nI v)])) = tc_hC (tc_s4 σ 4 v) := by simp [tc_hC, tc_s4, va_up]
theorem pRO_15 {σ : tcS} {v : Nat} (hM : M.2.2.1 = RRO) (hd : decode M.1 pc = .ok (.putfield 15, 3)) (k : tc_V M K nc ns (tc_hC (tc_s4 σ 4 v)) (pc + 3) L st) : tc_V M K nc ns (tc_hC σ) pc L (.inl (nI v) :: .inr (some 14) :: st) := tv_put (fs' := [.inr (some 15), .inl (nI v)]) (by rw [hM]; exact fRO_15) ftRO rfl (by decide +kernel) hd rfl (Nat.le_of_ble_eq_true rfl) rfl hhRO_15 k
theorem gRO_15 {σ : tcS} (hM : M.2.2.1 = RRO) (hd : decode M.1 pc = .ok (.getfield 15, 3)) (k : tc_V M K nc ns (tc_hC σ) (pc + 3) L (.inl (nI (σ.2.2.2 4)) :: st)) : tc_V M K nc ns (tc_hC σ) pc L (.inr (some 14) :: st) := tv_get (by rw [hM]; exact fRO_15) hd rfl rfl k
theorem gRO_11 {σ : tcS} (hM : M.2.2.1 = RRO) (hd : decode M.1 pc = .ok (.getfield 11, 3)) (k : tc_V M K nc ns (tc_hC σ) (pc + 3) L (.inr (some 15) :: st)) : tc_V M K nc ns (tc_hC σ) pc L (.inr (some 14) :: st) := tv_get (by rw [hM]; exact fRO_11) hd rfl rfl k
theorem gTC_13 {σ : tcS} (hM : M.2.2.1 = RTC) (hd : decode M.1 pc = .ok (.getfield 13, 3)) (k : tc_V M K nc ns (tc_hC σ) (pc + 3) L (.inl (nI (σ.2.2.2 0)) :: st)) : tc_V M K nc ns (tc_hC σ) pc L (.inr (some 0) :: st) := tv_get (by rw [hM]; exact fTC_13) hd rfl rfl k
theorem gTC_9 {σ : tcS} (hM : M.2.2.1 = RTC) (hd : decode M.1 pc = .ok (.getfield 9, 3)) (k : tc_V M K nc ns (tc_hC σ) (pc + 3) L (.inr (some 1) :: st)) : tc_V M K nc ns (tc_hC σ) pc L (.inr (some 0) :: st) := tv_get (by rw [hM]; exact fTC_9) hd rfl rfl k
theorem hhTC_13 {σ : tcS} {v : Nat} : (tc_hC σ).set 0 (.inr (2, [.inr (some 1), .inl (nI v), .inr (some 2), .inr (some 3), .inr (some 4), .inr (some 5), .inr (some 6), .inr (some 7), .inl (nI (σ.2.2.2 1)), .inl (nI (σ.2.2.2 2)), .inr (some 8), .inr (some 12), .inr (some 13), .inr (some 14), .inr (some 16), .inr (some 17), .inr (some 18), .inr (some 19), .inr (some 20)])) = tc_hC (tc_s4 σ 0 v) := by simp [tc_hC, tc_s4, va_up]
theorem pTC_13 {σ : tcS} {v : Nat} (hM : M.2.2.1 = RTC) (hd : decode M.1 pc = .ok (.putfield 13, 3)) (k : tc_V M K nc ns (tc_hC (tc_s4 σ 0 v)) (pc + 3) L st) : tc_V M K nc ns (tc_hC σ) pc L (.inl (nI v) :: .inr (some 0) :: st) := tv_put (fs' := [.inr (some 1), .inl (nI v), .inr (some 2), .inr (some 3), .inr (some 4), .inr (some 5), .inr (some 6), .inr (some 7), .inl (nI (σ.2.2.2 1)), .inl (nI (σ.2.2.2 2)), .inr (some 8), .inr (some 12), .inr (some 13), .inr (some 14), .inr (some 16), .inr (some 17), .inr (some 18), .inr (some 19), .inr (some 20)]) (by rw [hM]; exact fTC_13) ftTC rfl (by decide +kernel) hd rfl (Nat.le_of_ble_eq_true rfl) rfl hhTC_13 k
theorem gTC_35 {σ : tcS} (hM : M.2.2.1 = RTC) (hd : decode M.1 pc = .ok (.getfield 35, 3)) (k : tc_V M K nc ns (tc_hC σ) (pc + 3) L (.inl (nI (σ.2.2.2 1)) :: st)) : tc_V M K nc ns (tc_hC σ) pc L (.inr (some 0) :: st) := tv_get (by rw [hM]; exact fTC_35) hd rfl rfl k
theorem gTC_17 {σ : tcS} (hM : M.2.2.1 = RTC) (hd : decode M.1 pc = .ok (.getfield 17, 3)) (k : tc_V M K nc ns (tc_hC σ) (pc + 3) L (.inr (some 2) :: st)) : tc_V M K nc ns (tc_hC σ) pc L (.inr (some 0) :: st) := tv_get (by rw [hM]; exact fTC_17) hd rfl rfl k
theorem gTC_20 {σ : tcS} (hM : M.2.2.1 = RTC) (hd : decode M.1 pc = .ok (.getfield 20, 3)) (k : tc_V M K nc ns (tc_hC σ) (pc + 3) L (.inr (some 3) :: st)) : tc_V M K nc ns (tc_hC σ) pc L (.inr (some 0) :: st) := tv_get (by rw [hM]; exact fTC_20) hd rfl rfl k
theorem gTC_23 {σ : tcS} (hM : M.2.2.1 = RTC) (hd : decode M.1 pc = .ok (.getfield 23, 3)) (k : tc_V M K nc ns (tc_hC σ) (pc + 3) L (.inr (some 4) :: st)) : tc_V M K nc ns (tc_hC σ) pc L (.inr (some 0) :: st) := tv_get (by rw [hM]; exact fTC_23) hd rfl rfl k
theorem gTC_26 {σ : tcS} (hM : M.2.2.1 = RTC) (hd : decode M.1 pc = .ok (.getfield 26, 3)) (k : tc_V M K nc ns (tc_hC σ) (pc + 3) L (.inr (some 5) :: st)) : tc_V M K nc ns (tc_hC σ) pc L (.inr (some 0) :: st) := tv_get (by rw [hM]; exact fTC_26) hd rfl rfl k
theorem gTC_32 {σ : tcS} (hM : M.2.2.1 = RTC) (hd : decode M.1 pc = .ok (.getfield 32, 3)) (k : tc_V M K nc ns (tc_hC σ) (pc + 3) L (.inr (some 7) :: st)) : tc_V M K nc ns (tc_hC σ) pc L (.inr (some 0) :: st) := tv_get (by rw [hM]; exact fTC_32) hd rfl rfl k
theorem hhTC_35 {σ : tcS} {v : Nat} : (tc_hC σ).set 0 (.inr (2, [.inr (some 1), .inl (nI (σ.2.2.2 0)), .inr (some 2), .inr (some 3), .inr (some 4), .inr (some 5), .inr (some 6), .inr (some 7), .inl (nI v), .inl (nI (σ.2.2.2 2)), .inr (some 8), .inr (some 12), .inr (some 13), .inr (some 14), .inr (some 16), .inr (some 17), .inr (some 18), .inr (some 19), .inr (some 20)])) = tc_hC (tc_s4 σ 1 v) := by simp [tc_hC, tc_s4, va_up]
theorem pTC_35 {σ : tcS} {v : Nat} (hM : M.2.2.1 = RTC) (hd : decode M.1 pc = .ok (.putfield 35, 3)) (k : tc_V M K nc ns (tc_hC (tc_s4 σ 1 v)) (pc + 3) L st) : tc_V M K nc ns (tc_hC σ) pc L (.inl (nI v) :: .inr (some 0) :: st) := tv_put (fs' := [.inr (some 1), .inl (nI (σ.2.2.2 0)), .inr (some 2), .inr (some 3), .inr (some 4), .inr (some 5), .inr (some 6), .inr (some 7), .inl (nI v), .inl (nI (σ.2.2.2 2)), .inr (some 8), .inr (some 12), .inr (some 13), .inr (some 14), .inr (some 16), .inr (some 17), .inr (some 18), .inr (some 19), .inr (some 20)]) (by rw [hM]; exact fTC_35) ftTC rfl (by decide +kernel) hd rfl (Nat.le_of_ble_eq_true rfl) rfl hhTC_35 k
theorem gTC_29 {σ : tcS} (hM : M.2.2.1 = RTC) (hd : decode M.1 pc = .ok (.getfield 29, 3)) (k : tc_V M K nc ns (tc_hC σ) (pc + 3) L (.inr (some 6) :: st)) : tc_V M K nc ns (tc_hC σ) pc L (.inr (some 0) :: st) := tv_get (by rw [hM]; exact fTC_29) hd rfl rfl k
theorem gTC_38 {σ : tcS} (hM : M.2.2.1 = RTC) (hd : decode M.1 pc = .ok (.getfield 38, 3)) (k : tc_V M K nc ns (tc_hC σ) (pc + 3) L (.inl (nI (σ.2.2.2 2)) :: st)) : tc_V M K nc ns (tc_hC σ) pc L (.inr (some 0) :: st) := tv_get (by rw [hM]; exact fTC_38) hd rfl rfl k
theorem hhTC_38 {σ : tcS} {v : Nat} : (tc_hC σ).set 0 (.inr (2, [.inr (some 1), .inl (nI (σ.2.2.2 0)), .inr (some 2), .inr (some 3), .inr (some 4), .inr (some 5), .inr (some 6), .inr (some 7), .inl (nI (σ.2.2.2 1)), .inl (nI v), .inr (some 8), .inr (some 12), .inr (some 13), .inr (some 14), .inr (some 16), .inr (some 17), .inr (some 18), .inr (some 19), .inr (some 20)])) = tc_hC (tc_s4 σ 2 v) := by simp [tc_hC, tc_s4, va_up]
theorem pTC_38 {σ : tcS} {v : Nat} (hM : M.2.2.1 = RTC) (hd : decode M.1 pc = .ok (.putfield 38, 3)) (k : tc_V M K nc ns (tc_hC (tc_s4 σ 2 v)) (pc + 3) L st) : tc_V M K nc ns (tc_hC σ) pc L (.inl (nI v) :: .inr (some 0) :: st) := tv_put (fs' := [.inr (some 1), .inl (nI (σ.2.2.2 0)), .inr (some 2), .inr (some 3), .inr (some 4), .inr (some 5), .inr (some 6), .inr (some 7), .inl (nI (σ.2.2.2 1)), .inl (nI v), .inr (some 8), .inr (some 12), .inr (some 13), .inr (some 14), .inr (some 16), .inr (some 17), .inr (some 18), .inr (some 19), .inr (some 20)]) (by rw [hM]; exact fTC_38) ftTC rfl (by decide +kernel) hd rfl (Nat.le_of_ble_eq_true rfl) rfl hhTC_38 k
theorem gTC_44 {σ : tcS} (hM : M.2.2.1 = RTC) (hd : decode M.1 pc = .ok (.getfield 44, 3)) (k : tc_V M K nc ns (tc_hC σ) (pc + 3) L (.inr (some 8) :: st)) : tc_V M K nc ns (tc_hC σ) pc L (.inr (some 0) :: st) := tv_get (by rw [hM]; exact fTC_44) hd rfl rfl k
theorem gTC_48 {σ : tcS} (hM : M.2.2.1 = RTC) (hd : decode M.1 pc = .ok (.getfield 48, 3)) (k : tc_V M K nc ns (tc_hC σ) (pc + 3) L (.inr (some 12) :: st)) : tc_V M K nc ns (tc_hC σ) pc L (.inr (some 0) :: st) := tv_get (by rw [hM]; exact fTC_48) hd rfl rfl k
theorem gTC_57 {σ : tcS} (hM : M.2.2.1 = RTC) (hd : decode M.1 pc = .ok (.getfield 57, 3)) (k : tc_V M K nc ns (tc_hC σ) (pc + 3) L (.inr (some 14) :: st)) : tc_V M K nc ns (tc_hC σ) pc L (.inr (some 0) :: st) := tv_get (by rw [hM]; exact fTC_57) hd rfl rfl k
theorem gTC_51 {σ : tcS} (hM : M.2.2.1 = RTC) (hd : decode M.1 pc = .ok (.getfield 51, 3)) (k : tc_V M K nc ns (tc_hC σ) (pc + 3) L (.inr (some 13) :: st)) : tc_V M K nc ns (tc_hC σ) pc L (.inr (some 0) :: st) := tv_get (by rw [hM]; exact fTC_51) hd rfl rfl k
theorem gTC_67 {σ : tcS} (hM : M.2.2.1 = RTC) (hd : decode M.1 pc = .ok (.getfield 67, 3)) (k : tc_V M K nc ns (tc_hC σ) (pc + 3) L (.inr (some 18) :: st)) : tc_V M K nc ns (tc_hC σ) pc L (.inr (some 0) :: st) := tv_get (by rw [hM]; exact fTC_67) hd rfl rfl k
theorem gTC_73 {σ : tcS} (hM : M.2.2.1 = RTC) (hd : decode M.1 pc = .ok (.getfield 73, 3)) (k : tc_V M K nc ns (tc_hC σ) (pc + 3) L (.inr (some 20) :: st)) : tc_V M K nc ns (tc_hC σ) pc L (.inr (some 0) :: st) := tv_get (by rw [hM]; exact fTC_73) hd rfl rfl k
theorem gTC_61 {σ : tcS} (hM : M.2.2.1 = RTC) (hd : decode M.1 pc = .ok (.getfield 61, 3)) (k : tc_V M K nc ns (tc_hC σ) (pc + 3) L (.inr (some 16) :: st)) : tc_V M K nc ns (tc_hC σ) pc L (.inr (some 0) :: st) := tv_get (by rw [hM]; exact fTC_61) hd rfl rfl k
theorem gTC_64 {σ : tcS} (hM : M.2.2.1 = RTC) (hd : decode M.1 pc = .ok (.getfield 64, 3)) (k : tc_V M K nc ns (tc_hC σ) (pc + 3) L (.inr (some 17) :: st)) : tc_V M K nc ns (tc_hC σ) pc L (.inr (some 0) :: st) := tv_get (by rw [hM]; exact fTC_64) hd rfl rfl k
theorem gTC_70 {σ : tcS} (hM : M.2.2.1 = RTC) (hd : decode M.1 pc = .ok (.getfield 70, 3)) (k : tc_V M K nc ns (tc_hC σ) (pc + 3) L (.inr (some 19) :: st)) : tc_V M K nc ns (tc_hC σ) pc L (.inr (some 0) :: st) := tv_get (by rw [hM]; exact fTC_70) hd rfl rfl k
end CW
end
section
theorem tc_hC_len {σ τ : tcS} : (tc_hC σ).length = (tc_hC τ).length := rfl
/-- what holds of the class's state between calls -/
def tc_I (σ : tcS) : Prop := σ.2.2.2 0 ≤ 6 ∧ σ.2.2.2 1 ≤ 24 ∧ σ.2.2.2 2 ≤ 40 ∧ σ.2.2.2 3 ≤ 8 ∧ σ.2.2.2 4 ≤ 144 ∧ (∀ t, t < σ.2.2.2 1 → σ.2.1 0 t < 8) ∧ (∀ i, i < σ.2.2.2 1 → σ.2.1 1 i < σ.2.2.2 1) ∧ (∀ i, i < σ.2.2.2 3 → σ.2.1 2 i < 8) ∧ (∀ k t, σ.2.2.1 0 k = some t → t < 24) ∧ (∀ k, σ.1 11 k = 0 ∨ σ.1 11 k = 1)
theorem tc_bit1 {x : Int32} {k : Nat} (hk : k < 32) (h : ¬ ((x.toUInt32 >>> ((nI k).toUInt32 &&& Int32.toUInt32 31)).toInt32 &&& 1) = 0) : bt x k = true := by
  cases e : bt x k
  · exact absurd ((tc_bit hk).mpr e) h
  · rfl
theorem tc_ff_no {p : Nat → Bool} {n k : Nat} (h : p k = false) : tc_ff p (n + 1) k = tc_ff p n (k + 1) := by simp [tc_ff, h]
theorem tc_ff_yes {p : Nat → Bool} {n k : Nat} (h : p k = true) : tc_ff p (n + 1) k = some k := by simp [tc_ff, h]
theorem tc_b2_0 {b : Bool} : tc_b2 b = 0 ↔ b = false := by cases b <;> decide
theorem tc_b2_n {b : Bool} : ¬ tc_b2 b = 0 ↔ b = true := by cases b <;> decide
theorem tc_oI_m1 {o : Option Nat} (ho : ∀ k, o = some k → k < 2 ^ 31) : tc_oI o = -1 ↔ o = none := by
  cases o with
  | none => exact ⟨fun _ => rfl, fun _ => rfl⟩
  | some k =>
    refine ⟨fun h => ?_, fun h => by cases h⟩
    have h1 : nI k = -1 := h
    have h2 := nI_pos' (ho k rfl)
    rw [h1] at h2
    exact absurd h2 (by decide)
theorem tc_oI_some {o : Option Nat} {t : Nat} (ho : ∀ k, o = some k → k < 2 ^ 31) (ht : t < 2 ^ 31) : tc_oI o = nI t ↔ o = some t := by
  cases o with
  | none =>
    refine ⟨fun h => ?_, fun h => by cases h⟩
    have h1 : (-1 : Int32) = nI t := h
    have h2 := nI_pos' ht
    rw [← h1] at h2
    exact absurd h2 (by decide)
  | some k =>
    refine ⟨fun h => ?_, fun h => by cases h; rfl⟩
    rw [(nI_eq (ho k rfl) ht).mp h]
set_option maxHeartbeats 4000000 in
set_option maxRecDepth 100000 in
theorem cc_hasBit (h : List tcC) (x : Int32) {k : Nat} (hk : k < 32) : tc_M yTC_hasBit cTC_hasBit 2 (some .boolean) 0 [.inl x, .inl (nI k)] (h, some (.inl (tc_b2 (bt x k))), h, 0, 0) := by
  refine tc_met (by decide) (Nat.le_of_ble_eq_true rfl) (Nat.le_refl _) rfl ?_
  refine tv_iload_n dTC_hasBit_0 rfl rfl ?_
  refine tv_iload_n dTC_hasBit_1 rfl rfl ?_
  refine tv_iushr dTC_hasBit_2 ?_
  refine tv_iconst (v := 1) dTC_hasBit_3 (by decide) ?_
  refine tv_iand dTC_hasBit_4 ?_
  refine tv_if_eq (tgt := 12) dTC_hasBit_5 (by decide) (fun c5 => ?_) (fun c5 => ?_)
  · have hr := tc_rb ((tc_bit hk).mp c5)
    refine tv_iconst (v := 0) dTC_hasBit_12 (by decide) ?_
    exact tv_iret dTC_hasBit_13 rfl rfl hr rfl
  · have hr := tc_rb (tc_bit1 hk c5)
    refine tv_iconst (v := 1) dTC_hasBit_8 (by decide) ?_
    refine tv_goto (tgt := 13) dTC_hasBit_9 (by decide) ?_
    exact tv_iret dTC_hasBit_13 rfl rfl hr rfl
set_option maxHeartbeats 4000000 in
set_option maxRecDepth 100000 in
theorem cc_isKind (h : List tcC) (x : Int32) : tc_M yTC_isKind cTC_isKind 1 (some .boolean) 0 [.inl x] (h, some (.inl (tc_b2 (tc_isN x 8))), h, 0, 0) := by
  refine tc_met (by decide) (Nat.le_of_ble_eq_true rfl) (Nat.le_refl _) rfl ?_
  refine tv_iload_n dTC_isKind_0 rfl rfl ?_
  refine tv_if_lt (tgt := 14) dTC_isKind_1 (by decide) (fun c1 => ?_) (fun c1 => ?_)
  · have hr := tc_rb (tc_isN_neg (n := 8) c1)
    refine tv_iconst (v := 0) dTC_isKind_14 (by decide) ?_
    exact tv_iret dTC_isKind_15 rfl rfl hr rfl
  · refine tv_iload_n dTC_isKind_4 rfl rfl ?_
    refine tv_bipush (v := 8) dTC_isKind_5 (by decide) ?_
    refine tv_icmp_ge (tgt := 14) dTC_isKind_7 (by decide) (fun c7 => ?_) (fun c7 => ?_)
    · have hr := tc_rb (tc_isN_big (n := 8) c7)
      refine tv_iconst (v := 0) dTC_isKind_14 (by decide) ?_
      exact tv_iret dTC_isKind_15 rfl rfl hr rfl
    · have hr := tc_rb (tc_isN_in (n := 8) c1 c7)
      refine tv_iconst (v := 1) dTC_isKind_10 (by decide) ?_
      refine tv_goto (tgt := 15) dTC_isKind_11 (by decide) ?_
      exact tv_iret dTC_isKind_15 rfl rfl hr rfl
set_option maxHeartbeats 4000000 in
set_option maxRecDepth 100000 in
theorem cc_isTool (σ : tcS) (x : Int32) : tc_M yTC_isTool cTC_isTool 2 (some .boolean) 0 [.inr (some 0), .inl x] (tc_hC σ, some (.inl (tc_b2 (tc_isN x (σ.2.2.2 1)))), tc_hC σ, 0, 0) := by
  refine tc_met (by decide) (Nat.le_of_ble_eq_true rfl) (Nat.le_of_eq tc_hC_len) rfl ?_
  refine tv_iload_n dTC_isTool_0 rfl rfl ?_
  refine tv_if_lt (tgt := 16) dTC_isTool_1 (by decide) (fun c1 => ?_) (fun c1 => ?_)
  · have hr := tc_rb (tc_isN_neg (n := σ.2.2.2 1) c1)
    refine tv_iconst (v := 0) dTC_isTool_16 (by decide) ?_
    exact tv_iret dTC_isTool_17 rfl rfl hr rfl
  · refine tv_iload_n dTC_isTool_4 rfl rfl ?_
    refine tv_aload_n dTC_isTool_5 rfl rfl ?_
    refine gTC_35 rfl dTC_isTool_6 ?_
    refine tv_icmp_ge (tgt := 16) dTC_isTool_9 (by decide) (fun c9 => ?_) (fun c9 => ?_)
    · have hr := tc_rb (tc_isN_big c9)
      refine tv_iconst (v := 0) dTC_isTool_16 (by decide) ?_
      exact tv_iret dTC_isTool_17 rfl rfl hr rfl
    · have hr := tc_rb (tc_isN_in c1 c9)
      refine tv_iconst (v := 1) dTC_isTool_12 (by decide) ?_
      refine tv_goto (tgt := 17) dTC_isTool_13 (by decide) ?_
      exact tv_iret dTC_isTool_17 rfl rfl hr rfl
set_option maxHeartbeats 4000000 in
set_option maxRecDepth 100000 in
theorem cc_isPlatform (σ : tcS) (x : Int32) : tc_M yTC_isPlatform cTC_isPlatform 2 (some .boolean) 0 [.inr (some 0), .inl x] (tc_hC σ, some (.inl (tc_b2 (tc_isN x (σ.2.2.2 0)))), tc_hC σ, 0, 0) := by
  refine tc_met (by decide) (Nat.le_of_ble_eq_true rfl) (Nat.le_of_eq tc_hC_len) rfl ?_
  refine tv_iload_n dTC_isPlatform_0 rfl rfl ?_
  refine tv_if_lt (tgt := 16) dTC_isPlatform_1 (by decide) (fun c1 => ?_) (fun c1 => ?_)
  · have hr := tc_rb (tc_isN_neg (n := σ.2.2.2 0) c1)
    refine tv_iconst (v := 0) dTC_isPlatform_16 (by decide) ?_
    exact tv_iret dTC_isPlatform_17 rfl rfl hr rfl
  · refine tv_iload_n dTC_isPlatform_4 rfl rfl ?_
    refine tv_aload_n dTC_isPlatform_5 rfl rfl ?_
    refine gTC_13 rfl dTC_isPlatform_6 ?_
    refine tv_icmp_ge (tgt := 16) dTC_isPlatform_9 (by decide) (fun c9 => ?_) (fun c9 => ?_)
    · have hr := tc_rb (tc_isN_big c9)
      refine tv_iconst (v := 0) dTC_isPlatform_16 (by decide) ?_
      exact tv_iret dTC_isPlatform_17 rfl rfl hr rfl
    · have hr := tc_rb (tc_isN_in c1 c9)
      refine tv_iconst (v := 1) dTC_isPlatform_12 (by decide) ?_
      refine tv_goto (tgt := 17) dTC_isPlatform_13 (by decide) ?_
      exact tv_iret dTC_isPlatform_17 rfl rfl hr rfl
set_option maxHeartbeats 4000000 in
set_option maxRecDepth 100000 in
theorem cl_lowestBit_2 (h : List tcC) (x : Int32) {K : tcK} : ∀ (n : Nat) (k : Nat), k + n = 32 → K.2.1 = some (.inl (tc_oI (tc_ff (bt x) n k))) → K.2.2.1 = h → tc_V (cTC_lowestBit, 2, yTC_lowestBit.cls, some .int, 1, yTC_lowestBit.name) K 0 0 (h) 2 [some (.inl x), some (.inl (nI k))] [] := by
  intro n
  induction n with
  | zero =>
    intro k hk hr hh
    refine tv_iload_n dTC_lowestBit_2 rfl rfl ?_
    refine tv_bipush (v := 32) dTC_lowestBit_3 (by decide) ?_
    refine tv_icmp_ge (tgt := 24) dTC_lowestBit_5 (by decide) (fun c5 => ?_) (fun c5 => absurd (nI_le (a := 32) (b := k) (by omega) (by omega)) c5)
    refine tv_iconst (v := -1) dTC_lowestBit_24 (by decide) ?_
    exact tv_iret dTC_lowestBit_25 rfl rfl hr hh
  | succ n ih =>
    intro k hk hr hh
    refine tv_iload_n dTC_lowestBit_2 rfl rfl ?_
    refine tv_bipush (v := 32) dTC_lowestBit_3 (by decide) ?_
    refine tv_icmp_ge (tgt := 24) dTC_lowestBit_5 (by decide) (fun c5 => absurd c5 (nI_ge (a := k) (b := 32) (by omega) (by omega))) (fun c5 => ?_)
    refine tv_iload_n dTC_lowestBit_8 rfl rfl ?_
    refine tv_iload_n dTC_lowestBit_9 rfl rfl ?_
    refine tv_callS2r kTC_93 (by decide) (Nat.le_of_ble_eq_true rfl) ⟨rfl, rfl⟩ (cc_hasBit h x (by omega)) ⟨Nat.zero_le _, Nat.zero_le _⟩ dTC_lowestBit_10 ?_
    refine tv_if_eq (tgt := 18) dTC_lowestBit_13 (by decide) (fun c13 => ?_) (fun c13 => ?_)
    · refine tv_iinc_1 dTC_lowestBit_18 (by decide) (nI_1 k) ?_
      refine tv_goto (tgt := 2) dTC_lowestBit_21 (by decide) ?_
      exact ih (k + 1) (by omega) (by rw [hr, tc_ff_no (tc_b2_0.mp c13)]) hh
    · refine tv_iload_n dTC_lowestBit_16 rfl rfl ?_
      exact tv_iret dTC_lowestBit_17 rfl rfl (by rw [hr, tc_ff_yes (tc_b2_n.mp c13)]; rfl) hh
set_option maxHeartbeats 4000000 in
set_option maxRecDepth 100000 in
theorem cc_lowestBit (h : List tcC) (x : Int32) : tc_M yTC_lowestBit cTC_lowestBit 2 (some .int) 1 [.inl x] (h, some (.inl (tc_oI (tc_ff (bt x) 32 0))), h, 0, 0) := by
  refine tc_met (by decide) (Nat.le_of_ble_eq_true rfl) (Nat.le_refl _) rfl ?_
  refine tv_iconst (v := 0) dTC_lowestBit_0 (by decide) ?_
  refine tv_istN_1 dTC_lowestBit_1 (by decide) ?_
  exact cl_lowestBit_2 h x 32 0 rfl rfl rfl
end
section
set_option maxHeartbeats 4000000 in
set_option maxRecDepth 100000 in
theorem cc_ak_size (σ : tcS) : tc_M yAK_size cAK_size 1 (some .int) 0 [.inr (some 8)] (tc_hC σ, some (.inl (nI (σ.2.2.2 3))), tc_hC σ, 0, 0) := by
  refine tc_met (by decide) (Nat.le_of_ble_eq_true rfl) (Nat.le_of_eq tc_hC_len) rfl ?_
  refine tv_aload_n dAK_size_0 rfl rfl ?_
  refine gAK_22 rfl dAK_size_1 ?_
  exact tv_iret dAK_size_4 rfl rfl rfl rfl
set_option maxHeartbeats 4000000 in
set_option maxRecDepth 100000 in
theorem cc_ak_kindAt (σ : tcS) {i : Nat} (hi : i < 8) : tc_M yAK_kindAt cAK_kindAt 2 (some .int) 0 [.inr (some 8), .inl (nI i)] (tc_hC σ, some (.inl (nI (σ.2.1 2 i))), tc_hC σ, 0, 0) := by
  refine tc_met (by decide) (Nat.le_of_ble_eq_true rfl) (Nat.le_of_eq tc_hC_len) rfl ?_
  refine tv_aload_n dAK_kindAt_0 rfl rfl ?_
  refine gAK_9 rfl dAK_kindAt_1 ?_
  refine tv_iload_n dAK_kindAt_4 rfl rfl ?_
  refine ldC_9 dAK_kindAt_5 hi ?_
  exact tv_iret dAK_kindAt_6 rfl rfl rfl rfl
set_option maxHeartbeats 4000000 in
set_option maxRecDepth 100000 in
theorem cc_ak_leastVersion (σ : tcS) {i : Nat} (hi : i < 8) : tc_M yAK_leastVersion cAK_leastVersion 2 (some .int) 0 [.inr (some 8), .inl (nI i)] (tc_hC σ, some (.inl (σ.1 10 i)), tc_hC σ, 0, 0) := by
  refine tc_met (by decide) (Nat.le_of_ble_eq_true rfl) (Nat.le_of_eq tc_hC_len) rfl ?_
  refine tv_aload_n dAK_leastVersion_0 rfl rfl ?_
  refine gAK_15 rfl dAK_leastVersion_1 ?_
  refine tv_iload_n dAK_leastVersion_4 rfl rfl ?_
  refine ldC_10 dAK_leastVersion_5 hi ?_
  exact tv_iret dAK_leastVersion_6 rfl rfl rfl rfl
set_option maxHeartbeats 4000000 in
set_option maxRecDepth 100000 in
theorem cc_ak_isNeeded (σ : tcS) {i : Nat} (hi : i < 8) (hb : σ.1 11 i = 0 ∨ σ.1 11 i = 1) : tc_M yAK_isNeeded cAK_isNeeded 2 (some .boolean) 0 [.inr (some 8), .inl (nI i)] (tc_hC σ, some (.inl (σ.1 11 i)), tc_hC σ, 0, 0) := by
  refine tc_met (by decide) (Nat.le_of_ble_eq_true rfl) (Nat.le_of_eq tc_hC_len) rfl ?_
  refine tv_aload_n dAK_isNeeded_0 rfl rfl ?_
  refine gAK_18 rfl dAK_isNeeded_1 ?_
  refine tv_iload_n dAK_isNeeded_4 rfl rfl ?_
  refine ldC_11 dAK_isNeeded_5 hi ?_
  exact tv_iret dAK_isNeeded_6 rfl (by rcases hb with q | q <;> rw [q] <;> rfl) rfl rfl
set_option maxHeartbeats 4000000 in
set_option maxRecDepth 100000 in
theorem cl_ak_find_2 (σ : tcS) (hI : tc_I σ) {k : Nat} (hk : k < 8) {K : tcK} : ∀ (n : Nat) (i : Nat), i + n = σ.2.2.2 3 → K.2.1 = some (.inl (tc_oI (tc_ff (fun i => decide (σ.2.1 2 i = k)) n i))) → K.2.2.1 = tc_hC σ → tc_V (cAK_find, 3, yAK_find.cls, some .int, 0, yAK_find.name) K 0 0 (tc_hC σ) 2 [some (.inr (some 8)), some (.inl (nI k)), some (.inl (nI i))] [] := by
  intro n
  induction n with
  | zero =>
    intro i hi hr hh
    obtain ⟨iP, iT, iN, iA, iR, iK, iO, iQ, iF, iB⟩ := id hI
    refine tv_iload_n dAK_find_2 rfl rfl ?_
    refine tv_aload_n dAK_find_3 rfl rfl ?_
    refine gAK_22 rfl dAK_find_4 ?_
    refine tv_icmp_ge (tgt := 28) dAK_find_7 (by decide) (fun c7 => ?_) (fun c7 => absurd (nI_le (by omega) (by omega)) c7)
    refine tv_iconst (v := -1) dAK_find_28 (by decide) ?_
    exact tv_iret dAK_find_29 rfl rfl hr hh
  | succ n ih =>
    intro i hi hr hh
    obtain ⟨iP, iT, iN, iA, iR, iK, iO, iQ, iF, iB⟩ := id hI
    refine tv_iload_n dAK_find_2 rfl rfl ?_
    refine tv_aload_n dAK_find_3 rfl rfl ?_
    refine gAK_22 rfl dAK_find_4 ?_
    refine tv_icmp_ge (tgt := 28) dAK_find_7 (by decide) (fun c7 => absurd c7 (nI_ge (by omega) (by omega))) (fun c7 => ?_)
    refine tv_aload_n dAK_find_10 rfl rfl ?_
    refine gAK_9 rfl dAK_find_11 ?_
    refine tv_iload_n dAK_find_14 rfl rfl ?_
    refine ldC_9 dAK_find_15 (by omega) ?_
    refine tv_iload_n dAK_find_16 rfl rfl ?_
    refine tv_icmp_ne (tgt := 22) dAK_find_17 (by decide) (fun c17 => ?_) (fun c17 => ?_)
    · refine tv_iinc_2 dAK_find_22 (by decide) (nI_1 i) ?_
      refine tv_goto (tgt := 2) dAK_find_25 (by decide) ?_
      exact ih (i + 1) (by omega) (by rw [hr, tc_ff_no (decide_eq_false (fun e => c17 (by rw [e])))]) hh
    · refine tv_iload_n dAK_find_20 rfl rfl ?_
      exact tv_iret dAK_find_21 rfl rfl (by rw [hr, tc_ff_yes (decide_eq_true ((nI_eq (by have := iQ i (by omega); omega) (by omega)).mp c17))]; rfl) hh
set_option maxHeartbeats 4000000 in
set_option maxRecDepth 100000 in
theorem cc_ak_find (σ : tcS) (hI : tc_I σ) {k : Nat} (hk : k < 8) : tc_M yAK_find cAK_find 3 (some .int) 0 [.inr (some 8), .inl (nI k)] (tc_hC σ, some (.inl (tc_oI (tc_find σ k))), tc_hC σ, 0, 0) := by
  refine tc_met (by decide) (Nat.le_of_ble_eq_true rfl) (Nat.le_of_eq tc_hC_len) rfl ?_
  refine tv_iconst (v := 0) dAK_find_0 (by decide) ?_
  refine tv_istN_2 dAK_find_1 (by decide) ?_
  exact cl_ak_find_2 σ hI hk (σ.2.2.2 3) 0 (by omega) rfl rfl
theorem tc_ff_lt {p : Nat → Bool} : ∀ {n k i : Nat}, tc_ff p n k = some i → k ≤ i ∧ i < k + n ∧ p i = true
  | 0, k, i, h => by simp [tc_ff] at h
  | n + 1, k, i, h => by
    unfold tc_ff at h
    by_cases hp : p k = true
    · rw [if_pos hp] at h
      cases h
      exact ⟨Nat.le_refl _, by omega, hp⟩
    · rw [if_neg hp] at h
      obtain ⟨h1, h2, h3⟩ := tc_ff_lt h
      exact ⟨by omega, by omega, h3⟩
theorem tc_find_b {σ : tcS} (hI : tc_I σ) {k i : Nat} (h : tc_find σ k = some i) : i < σ.2.2.2 3 ∧ i < 8 := by
  obtain ⟨-, h2, -⟩ := tc_ff_lt h
  have := hI.2.2.2.1
  omega
set_option maxHeartbeats 4000000 in
set_option maxRecDepth 100000 in
theorem cc_ak_put (σ : tcS) (hI : tc_I σ) {k : Nat} (hk : k < 8) (v b : Int32) (hb : vp_nar .boolean b = b) : tc_M yAK_put cAK_put 4 (none) 1 [.inr (some 8), .inl (nI k), .inl v, .inl b] (tc_hC σ, none, tc_hC (tc_put σ k v b), 0, 0) := by
  refine tc_met (by decide) (Nat.le_of_ble_eq_true rfl) (Nat.le_of_eq tc_hC_len) rfl ?_
  refine tv_aload_n dAK_put_0 rfl rfl ?_
  refine tv_iload_n dAK_put_1 rfl rfl ?_
  refine tv_callV1r kAK_26 (by decide) (Nat.le_of_ble_eq_true rfl) ⟨rfl, rfl⟩ rfl (cc_ak_find σ hI hk) ⟨Nat.zero_le _, Nat.zero_le _⟩ dAK_put_2 ?_
  refine tv_iconst (v := -1) dAK_put_5 (by decide) ?_
  refine tv_icmp_ne (tgt := 38) dAK_put_6 (by decide) (fun c6 => ?_) (fun c6 => ?_)
  · have hp : ¬ (tc_find σ k = none ∧ σ.2.2.2 3 < 8) := fun q => c6 ((tc_oI_m1 (fun i q => by have := tc_find_b hI q; omega)).mpr q.1)
    have hh : tc_hC (tc_put σ k v b) = tc_hC (tc_s1 (tc_s1 σ 10 (upd (σ.1 10) k v)) 11 (upd (σ.1 11) k b)) := by unfold tc_put; rw [if_neg hp]
    refine tv_aload_n dAK_put_38 rfl rfl ?_
    refine gAK_15 rfl dAK_put_39 ?_
    refine tv_iload_n dAK_put_42 rfl rfl ?_
    refine tv_iload_n dAK_put_43 rfl rfl ?_
    refine stC_10 dAK_put_44 hk ?_
    refine tv_aload_n dAK_put_45 rfl rfl ?_
    refine gAK_18 rfl dAK_put_46 ?_
    refine tv_iload_n dAK_put_49 rfl rfl ?_
    refine tv_iload_n dAK_put_50 rfl rfl ?_
    refine stC_11 dAK_put_51 hk hb ?_
    exact tv_vret dAK_put_52 rfl rfl hh
  · have e6 := (tc_oI_m1 (fun i q => by have := tc_find_b hI q; omega)).mp c6
    refine tv_aload_n dAK_put_9 rfl rfl ?_
    refine gAK_22 rfl dAK_put_10 ?_
    refine tv_bipush (v := 8) dAK_put_13 (by decide) ?_
    refine tv_icmp_ge (tgt := 38) dAK_put_15 (by decide) (fun c15 => ?_) (fun c15 => ?_)
    · have hp : ¬ (tc_find σ k = none ∧ σ.2.2.2 3 < 8) := fun q => absurd c15 (nI_ge (b := 8) q.2 (by omega))
      have hh : tc_hC (tc_put σ k v b) = tc_hC (tc_s1 (tc_s1 σ 10 (upd (σ.1 10) k v)) 11 (upd (σ.1 11) k b)) := by unfold tc_put; rw [if_neg hp]
      refine tv_aload_n dAK_put_38 rfl rfl ?_
      refine gAK_15 rfl dAK_put_39 ?_
      refine tv_iload_n dAK_put_42 rfl rfl ?_
      refine tv_iload_n dAK_put_43 rfl rfl ?_
      refine stC_10 dAK_put_44 hk ?_
      refine tv_aload_n dAK_put_45 rfl rfl ?_
      refine gAK_18 rfl dAK_put_46 ?_
      refine tv_iload_n dAK_put_49 rfl rfl ?_
      refine tv_iload_n dAK_put_50 rfl rfl ?_
      refine stC_11 dAK_put_51 hk hb ?_
      exact tv_vret dAK_put_52 rfl rfl hh
    · have hp : tc_find σ k = none ∧ σ.2.2.2 3 < 8 := ⟨e6, by
        rcases Nat.lt_or_ge (σ.2.2.2 3) 8 with q | q
        · exact q
        · exact absurd (nI_le (a := 8) q (by have := hI.2.2.2.1; omega)) c15⟩
      have hh : tc_hC (tc_put σ k v b) = tc_hC (tc_s1 (tc_s1 (tc_s4 (tc_s2 σ 2 (va_up (σ.2.1 2) (σ.2.2.2 3) k)) 3 (σ.2.2.2 3 + 1)) 10 (upd (σ.1 10) k v)) 11 (upd (σ.1 11) k b)) := by unfold tc_put; rw [if_pos hp]
      refine tv_aload_n dAK_put_18 rfl rfl ?_
      refine gAK_9 rfl dAK_put_19 ?_
      refine tv_aload_n dAK_put_22 rfl rfl ?_
      refine gAK_22 rfl dAK_put_23 ?_
      refine tv_iload_n dAK_put_26 rfl rfl ?_
      refine stC_9 dAK_put_27 hp.2 ?_
      refine tv_aload_n dAK_put_28 rfl rfl ?_
      refine tv_dup dAK_put_29 ?_
      refine gAK_22 rfl dAK_put_30 ?_
      refine tv_iconst (v := 1) dAK_put_33 (by decide) ?_
      refine tv_iadd dAK_put_34 ?_
      refine tv_top (b := .inl (nI (σ.2.2.2 3 + 1))) (congrArg Sum.inl (nI_1 _)) ?_
      refine pAK_22 rfl dAK_put_35 ?_
      refine tv_aload_n dAK_put_38 rfl rfl ?_
      refine gAK_15 rfl dAK_put_39 ?_
      refine tv_iload_n dAK_put_42 rfl rfl ?_
      refine tv_iload_n dAK_put_43 rfl rfl ?_
      refine stC_10 dAK_put_44 hk ?_
      refine tv_aload_n dAK_put_45 rfl rfl ?_
      refine gAK_18 rfl dAK_put_46 ?_
      refine tv_iload_n dAK_put_49 rfl rfl ?_
      refine tv_iload_n dAK_put_50 rfl rfl ?_
      refine stC_11 dAK_put_51 hk hb ?_
      exact tv_vret dAK_put_52 rfl rfl hh
set_option maxHeartbeats 4000000 in
set_option maxRecDepth 100000 in
theorem cl_ak_remove_25 {K : tcK} {x1 x2 : Option tcV} : ∀ (n : Nat) (j : Nat) (ρ : tcS), j + n = ρ.2.2.2 3 → ρ.2.2.2 3 + 1 ≤ 8 → K.2.1 = some (.inl 1) → K.2.2.1 = tc_hC (tc_up tc_rmB n j ρ) → tc_V (cAK_remove, 4, yAK_remove.cls, some .boolean, 1, yAK_remove.name) K 0 0 (tc_hC ρ) 25 [some (.inr (some 8)), x1, x2, some (.inl (nI j))] [] := by
  intro n
  induction n with
  | zero =>
    intro j ρ hj h8 hr hh
    refine tv_iload_n dAK_remove_25 rfl rfl ?_
    refine tv_aload_n dAK_remove_26 rfl rfl ?_
    refine gAK_22 rfl dAK_remove_27 ?_
    refine tv_icmp_ge (tgt := 53) dAK_remove_30 (by decide) (fun c30 => ?_) (fun c30 => absurd (nI_le (by omega) (by omega)) c30)
    refine tv_iconst (v := 1) dAK_remove_53 (by decide) ?_
    exact tv_iret dAK_remove_54 rfl rfl hr hh
  | succ n ih =>
    intro j ρ hj h8 hr hh
    refine tv_iload_n dAK_remove_25 rfl rfl ?_
    refine tv_aload_n dAK_remove_26 rfl rfl ?_
    refine gAK_22 rfl dAK_remove_27 ?_
    refine tv_icmp_ge (tgt := 53) dAK_remove_30 (by decide) (fun c30 => absurd c30 (nI_ge (by omega) (by omega))) (fun c30 => ?_)
    refine tv_aload_n dAK_remove_33 rfl rfl ?_
    refine gAK_9 rfl dAK_remove_34 ?_
    refine tv_iload_n dAK_remove_37 rfl rfl ?_
    refine tv_aload_n dAK_remove_38 rfl rfl ?_
    refine gAK_9 rfl dAK_remove_39 ?_
    refine tv_iload_n dAK_remove_42 rfl rfl ?_
    refine tv_iconst (v := 1) dAK_remove_43 (by decide) ?_
    refine tv_iadd dAK_remove_44 ?_
    refine tv_top (b := .inl (nI (j + 1))) (congrArg Sum.inl (nI_1 j)) ?_
    refine ldC_9 dAK_remove_45 (by omega) ?_
    refine stC_9 dAK_remove_46 (by omega) ?_
    refine tv_iinc_3 dAK_remove_47 (by decide) (nI_1 j) ?_
    refine tv_goto (tgt := 25) dAK_remove_50 (by decide) ?_
    exact ih (j + 1) (tc_rmB j ρ) (by show j + 1 + n = ρ.2.2.2 3; omega) h8 hr hh
set_option maxHeartbeats 4000000 in
set_option maxRecDepth 100000 in
theorem cc_ak_remove (σ : tcS) (hI : tc_I σ) {k : Nat} (hk : k < 8) : tc_M yAK_remove cAK_remove 4 (some .boolean) 1 [.inr (some 8), .inl (nI k)] (tc_hC σ, some (.inl (tc_b2 (tc_rem σ k).1)), tc_hC (tc_rem σ k).2, 0, 0) := by
  have hc := cc_ak_find σ hI hk
  cases hf : tc_find σ k with
  | none =>
    rw [hf] at hc
    have hr : tc_rem σ k = (false, σ) := by unfold tc_rem; rw [hf]
    refine tc_met (by decide) (Nat.le_of_ble_eq_true rfl) (Nat.le_of_eq tc_hC_len) rfl ?_
    refine tv_aload_n dAK_remove_0 rfl rfl ?_
    refine tv_iload_n dAK_remove_1 rfl rfl ?_
    refine tv_callV1r kAK_26 (by decide) (Nat.le_of_ble_eq_true rfl) ⟨rfl, rfl⟩ rfl hc ⟨Nat.zero_le _, Nat.zero_le _⟩ dAK_remove_2 ?_
    refine tv_istN_2 dAK_remove_5 (by decide) ?_
    refine tv_iload_n dAK_remove_6 rfl rfl ?_
    refine tv_iconst (v := -1) dAK_remove_7 (by decide) ?_
    refine tv_icmp_ne (tgt := 13) dAK_remove_8 (by decide) (fun c8 => absurd rfl c8) (fun c8 => ?_)
    refine tv_iconst (v := 0) dAK_remove_11 (by decide) ?_
    exact tv_iret dAK_remove_12 rfl rfl (by show some (Sum.inl (tc_b2 (tc_rem σ k).1)) = _; rw [hr]; rfl) (by show tc_hC (tc_rem σ k).2 = _; rw [hr])
  | some i =>
    rw [hf] at hc
    have hb := tc_find_b hI hf
    have hA := hI.2.2.2.1
    have hr : tc_rem σ k = (true, tc_up tc_rmB (σ.2.2.2 3 - 1 - i) i (tc_s4 σ 3 (σ.2.2.2 3 - 1))) := by unfold tc_rem; rw [hf]
    refine tc_met (by decide) (Nat.le_of_ble_eq_true rfl) (Nat.le_of_eq tc_hC_len) rfl ?_
    refine tv_aload_n dAK_remove_0 rfl rfl ?_
    refine tv_iload_n dAK_remove_1 rfl rfl ?_
    refine tv_callV1r kAK_26 (by decide) (Nat.le_of_ble_eq_true rfl) ⟨rfl, rfl⟩ rfl hc ⟨Nat.zero_le _, Nat.zero_le _⟩ dAK_remove_2 ?_
    refine tv_top (b := .inl (nI i)) rfl ?_
    refine tv_istN_2 dAK_remove_5 (by decide) ?_
    refine tv_iload_n dAK_remove_6 rfl rfl ?_
    refine tv_iconst (v := -1) dAK_remove_7 (by decide) ?_
    refine tv_icmp_ne (tgt := 13) dAK_remove_8 (by decide) (fun c8 => ?_) (fun c8 => absurd ((tc_oI_m1 (o := some i) (fun a q => by cases q; omega)).mp c8) (by simp))
    refine tv_aload_n dAK_remove_13 rfl rfl ?_
    refine tv_dup dAK_remove_14 ?_
    refine gAK_22 rfl dAK_remove_15 ?_
    refine tv_iconst (v := 1) dAK_remove_18 (by decide) ?_
    refine tv_isub dAK_remove_19 ?_
    refine tv_top (b := .inl (nI (σ.2.2.2 3 - 1))) (congrArg Sum.inl (pk_sub (b := 1) (by omega))) ?_
    refine pAK_22 rfl dAK_remove_20 ?_
    refine tv_iload_n dAK_remove_23 rfl rfl ?_
    refine tv_istN_3 dAK_remove_24 (by decide) ?_
    exact cl_ak_remove_25 (σ.2.2.2 3 - 1 - i) i (tc_s4 σ 3 (σ.2.2.2 3 - 1)) (by show i + _ = σ.2.2.2 3 - 1; omega) (by show σ.2.2.2 3 - 1 + 1 ≤ 8; omega) (by show some (Sum.inl (tc_b2 (tc_rem σ k).1)) = _; rw [hr]; rfl) (by show tc_hC (tc_rem σ k).2 = _; rw [hr])
end
section
set_option maxHeartbeats 4000000 in
set_option maxRecDepth 100000 in
theorem cc_rl_clear (σ : tcS) : tc_M yRO_clear cRO_clear 1 (none) 0 [.inr (some 14)] (tc_hC σ, none, tc_hC (tc_s4 σ 4 0), 0, 0) := by
  refine tc_met (by decide) (Nat.le_of_ble_eq_true rfl) (Nat.le_of_eq tc_hC_len) rfl ?_
  refine tv_aload_n dRO_clear_0 rfl rfl ?_
  refine tv_iconst (v := 0) dRO_clear_1 (by decide) ?_
  refine tv_top (b := .inl (nI 0)) rfl ?_
  refine pRO_15 rfl dRO_clear_2 ?_
  exact tv_vret dRO_clear_5 rfl rfl rfl
set_option maxHeartbeats 4000000 in
set_option maxRecDepth 100000 in
theorem cc_rl_size (σ : tcS) : tc_M yRO_size cRO_size 1 (some .int) 0 [.inr (some 14)] (tc_hC σ, some (.inl (nI (σ.2.2.2 4))), tc_hC σ, 0, 0) := by
  refine tc_met (by decide) (Nat.le_of_ble_eq_true rfl) (Nat.le_of_eq tc_hC_len) rfl ?_
  refine tv_aload_n dRO_size_0 rfl rfl ?_
  refine gRO_15 rfl dRO_size_1 ?_
  exact tv_iret dRO_size_4 rfl rfl rfl rfl
set_option maxHeartbeats 4000000 in
set_option maxRecDepth 100000 in
theorem cc_rl_add (σ : tcS) (hI : tc_I σ) (h t w : Nat) (k : Option Nat) : tc_M yRO_add cRO_add 6 (none) 0 [.inr (some 14), .inl (nI h), .inl (nI t), .inl (nI w), .inl (tc_oI k)] (tc_hC σ, none, tc_hC (tc_add σ h t w k), 0, 0) := by
  obtain ⟨iP, iT, iN, iA, iR, iK, iO, iQ, iF, iB⟩ := id hI
  refine tc_met (by decide) (Nat.le_of_ble_eq_true rfl) (Nat.le_of_eq tc_hC_len) rfl ?_
  refine tv_aload_n dRO_add_0 rfl rfl ?_
  refine gRO_15 rfl dRO_add_1 ?_
  refine tv_sipush (v := 144) dRO_add_4 (by decide) ?_
  refine tv_icmp_lt (tgt := 11) dRO_add_7 (by decide) (fun c7 => ?_) (fun c7 => ?_)
  · have h7 : σ.2.2.2 4 < 144 := (nI_ltI (by omega) (by omega)).mp c7
    have hh : tc_hC (tc_add σ h t w k) = tc_hC (tc_s4 (tc_w1 (tc_w1 (tc_w1 (tc_w1 σ (σ.2.2.2 4 * 4) (nI h)) (σ.2.2.2 4 * 4 + 1) (nI t)) (σ.2.2.2 4 * 4 + 2) (nI w)) (σ.2.2.2 4 * 4 + 3) (tc_oI k)) 4 (σ.2.2.2 4 + 1)) := by unfold tc_add; rw [if_neg (by omega)]
    refine tv_aload_n dRO_add_11 rfl rfl ?_
    refine gRO_15 rfl dRO_add_12 ?_
    refine tv_iconst (v := 4) dRO_add_15 (by decide) ?_
    refine tv_imul dRO_add_16 ?_
    refine tv_top (b := .inl (nI (σ.2.2.2 4 * 4))) (congrArg Sum.inl (pk_mul _ 4)) ?_
    refine tv_ist_5 dRO_add_17 (by decide) ?_
    refine tv_aload_n dRO_add_19 rfl rfl ?_
    refine gRO_11 rfl dRO_add_20 ?_
    refine tv_iload dRO_add_23 rfl ?_
    refine tv_iload_n dRO_add_25 rfl rfl ?_
    refine stC_15 dRO_add_26 (by omega) ?_
    refine tv_aload_n dRO_add_27 rfl rfl ?_
    refine gRO_11 rfl dRO_add_28 ?_
    refine tv_iload dRO_add_31 rfl ?_
    refine tv_iconst (v := 1) dRO_add_33 (by decide) ?_
    refine tv_iadd dRO_add_34 ?_
    refine tv_top (b := .inl (nI (σ.2.2.2 4 * 4 + 1))) (congrArg Sum.inl (nI_add (σ.2.2.2 4 * 4) 1)) ?_
    refine tv_iload_n dRO_add_35 rfl rfl ?_
    refine stC_15 dRO_add_36 (by omega) ?_
    refine tv_aload_n dRO_add_37 rfl rfl ?_
    refine gRO_11 rfl dRO_add_38 ?_
    refine tv_iload dRO_add_41 rfl ?_
    refine tv_iconst (v := 2) dRO_add_43 (by decide) ?_
    refine tv_iadd dRO_add_44 ?_
    refine tv_top (b := .inl (nI (σ.2.2.2 4 * 4 + 2))) (congrArg Sum.inl (nI_add (σ.2.2.2 4 * 4) 2)) ?_
    refine tv_iload_n dRO_add_45 rfl rfl ?_
    refine stC_15 dRO_add_46 (by omega) ?_
    refine tv_aload_n dRO_add_47 rfl rfl ?_
    refine gRO_11 rfl dRO_add_48 ?_
    refine tv_iload dRO_add_51 rfl ?_
    refine tv_iconst (v := 3) dRO_add_53 (by decide) ?_
    refine tv_iadd dRO_add_54 ?_
    refine tv_top (b := .inl (nI (σ.2.2.2 4 * 4 + 3))) (congrArg Sum.inl (nI_add (σ.2.2.2 4 * 4) 3)) ?_
    refine tv_iload dRO_add_55 rfl ?_
    refine stC_15 dRO_add_57 (by omega) ?_
    refine tv_aload_n dRO_add_58 rfl rfl ?_
    refine tv_dup dRO_add_59 ?_
    refine gRO_15 rfl dRO_add_60 ?_
    refine tv_iconst (v := 1) dRO_add_63 (by decide) ?_
    refine tv_iadd dRO_add_64 ?_
    refine tv_top (b := .inl (nI (σ.2.2.2 4 + 1))) (congrArg Sum.inl (nI_1 _)) ?_
    refine pRO_15 rfl dRO_add_65 ?_
    exact tv_vret dRO_add_68 rfl rfl hh
  · have h7 : 144 ≤ σ.2.2.2 4 := Nat.not_lt.mp (fun q => c7 (nI_lt (b := 144) q (by omega)))
    exact tv_vret dRO_add_10 rfl rfl (by show tc_hC (tc_add σ h t w k) = _; unfold tc_add; rw [if_pos h7])
set_option maxHeartbeats 4000000 in
set_option maxRecDepth 100000 in
theorem cc_rl_cell (σ : tcS) (hI : tc_I σ) (i w : Int32) : tc_M yRO_cell cRO_cell 3 (some .int) 0 [.inr (some 14), .inl i, .inl w] (tc_hC σ, some (.inl (tc_cell σ i w)), tc_hC σ, 0, 0) := by
  obtain ⟨iP, iT, iN, iA, iR, iK, iO, iQ, iF, iB⟩ := id hI
  refine tc_met (by decide) (Nat.le_of_ble_eq_true rfl) (Nat.le_of_eq tc_hC_len) rfl ?_
  refine tv_iload_n dRO_cell_0 rfl rfl ?_
  refine tv_if_lt (tgt := 21) dRO_cell_1 (by decide) (fun c1 => ?_) (fun c1 => ?_)
  · have hr : some (Sum.inl (tc_cell σ i w)) = some (Sum.inl (-1) : tcV) := by unfold tc_cell; rw [if_neg (fun q => by rw [tc_isN_neg c1] at q; simp at q)]
    refine tv_iconst (v := -1) dRO_cell_21 (by decide) ?_
    exact tv_iret dRO_cell_22 rfl rfl hr rfl
  · refine tv_iload_n dRO_cell_4 rfl rfl ?_
    refine tv_aload_n dRO_cell_5 rfl rfl ?_
    refine gRO_15 rfl dRO_cell_6 ?_
    refine tv_icmp_ge (tgt := 21) dRO_cell_9 (by decide) (fun c9 => ?_) (fun c9 => ?_)
    · have hr : some (Sum.inl (tc_cell σ i w)) = some (Sum.inl (-1) : tcV) := by unfold tc_cell; rw [if_neg (fun q => by rw [tc_isN_big c9] at q; simp at q)]
      refine tv_iconst (v := -1) dRO_cell_21 (by decide) ?_
      exact tv_iret dRO_cell_22 rfl rfl hr rfl
    · refine tv_iload_n dRO_cell_12 rfl rfl ?_
      refine tv_if_lt (tgt := 21) dRO_cell_13 (by decide) (fun c13 => ?_) (fun c13 => ?_)
      · have hr : some (Sum.inl (tc_cell σ i w)) = some (Sum.inl (-1) : tcV) := by unfold tc_cell; rw [if_neg (fun q => by rw [tc_isN_neg c13] at q; simp at q)]
        refine tv_iconst (v := -1) dRO_cell_21 (by decide) ?_
        exact tv_iret dRO_cell_22 rfl rfl hr rfl
      · refine tv_iload_n dRO_cell_16 rfl rfl ?_
        refine tv_iconst (v := 4) dRO_cell_17 (by decide) ?_
        refine tv_icmp_lt (tgt := 23) dRO_cell_18 (by decide) (fun c18 => ?_) (fun c18 => ?_)
        · have n1 := tc_isN_in c1 c9
          have n2 : tc_isN w 4 = true := tc_isN_in c13 (fun q => by have q1 := Int32.le_iff_toInt_le.mp q; have q2 := Int32.lt_iff_toInt_lt.mp c18; exact absurd q2 (by have e : (nI 4).toInt = (4 : Int32).toInt := rfl; omega))
          have hr : some (Sum.inl (tc_cell σ i w)) = some (Sum.inl (σ.1 12 (i.toNatClampNeg * 4 + w.toNatClampNeg)) : tcV) := by unfold tc_cell; rw [if_pos ⟨n1, n2⟩]
          obtain ⟨a, ha, ea⟩ := tc_isN_ex (by omega) n1
          obtain ⟨b, hb, eb⟩ := tc_isN_ex (by omega) n2
          subst ea eb
          rw [nI_clamp (by omega), nI_clamp (by omega)] at hr
          refine tv_aload_n dRO_cell_23 rfl rfl ?_
          refine gRO_11 rfl dRO_cell_24 ?_
          refine tv_iload_n dRO_cell_27 rfl rfl ?_
          refine tv_iconst (v := 4) dRO_cell_28 (by decide) ?_
          refine tv_imul dRO_cell_29 ?_
          refine tv_top (b := .inl (nI (a * 4))) (congrArg Sum.inl (pk_mul a 4)) ?_
          refine tv_iload_n dRO_cell_30 rfl rfl ?_
          refine tv_iadd dRO_cell_31 ?_
          refine tv_top (b := .inl (nI (a * 4 + b))) (congrArg Sum.inl (nI_add (a * 4) b)) ?_
          refine ldC_15 dRO_cell_32 (by omega) ?_
          exact tv_iret dRO_cell_33 rfl rfl hr rfl
        · have hr : some (Sum.inl (tc_cell σ i w)) = some (Sum.inl (-1) : tcV) := by unfold tc_cell; rw [if_neg (fun q => by have q2 := (of_decide_eq_true q.2).2; exact c18 q2)]
          refine tv_iconst (v := -1) dRO_cell_21 (by decide) ?_
          exact tv_iret dRO_cell_22 rfl rfl hr rfl
end
section
theorem tc_I_of {σ τ : tcS} (hI : tc_I σ) (h2 : τ.2 = σ.2) (hb : τ.1 11 = σ.1 11) : tc_I τ := by
  unfold tc_I
  rw [h2, hb]
  exact hI
theorem tc_mk_no {f : Nat → Bool} {n : Nat} (h : f n = false) : tc_mk f (n + 1) = tc_mk f n := by simp [tc_mk, h]
theorem tc_mk_yes {f : Nat → Bool} {n : Nat} (h : f n = true) : tc_mk f (n + 1) = tc_mk f n ||| ((1 : Int32) <<< (nI n &&& 31)) := by simp [tc_mk, h]
theorem tc_pws_no {r nk : Int32} {sup : Nat → Int32} {k : Nat} (h : bt nk k = false) : tc_pws r nk sup (k + 1) = tc_pws r nk sup k := by simp [tc_pws, h]
theorem tc_pws_yes {r nk : Int32} {sup : Nat → Int32} {k : Nat} (h : bt nk k = true) : tc_pws r nk sup (k + 1) = tc_pws r nk sup k &&& sup k := by simp [tc_pws, h]
set_option maxHeartbeats 4000000 in
set_option maxRecDepth 100000 in
theorem cc_unbuiltOn (σ : tcS) {t : Nat} (ht : t < 24) : tc_M yTC_unbuiltOn cTC_unbuiltOn 2 (some .int) 0 [.inr (some 0), .inl (nI t)] (tc_hC σ, some (.inl (tc_unb σ t)), tc_hC σ, 0, 0) := by
  refine tc_met (by decide) (Nat.le_of_ble_eq_true rfl) (Nat.le_of_eq tc_hC_len) rfl ?_
  refine tv_aload_n dTC_unbuiltOn_0 rfl rfl ?_
  refine gTC_61 rfl dTC_unbuiltOn_1 ?_
  refine tv_iload_n dTC_unbuiltOn_4 rfl rfl ?_
  refine ldC_16 dTC_unbuiltOn_5 ht ?_
  refine tv_aload_n dTC_unbuiltOn_6 rfl rfl ?_
  refine gTC_67 rfl dTC_unbuiltOn_7 ?_
  refine tv_iload_n dTC_unbuiltOn_10 rfl rfl ?_
  refine ldC_18 dTC_unbuiltOn_11 ht ?_
  refine tv_iconst (v := -1) dTC_unbuiltOn_12 (by decide) ?_
  refine tv_ixor dTC_unbuiltOn_13 ?_
  refine tv_iand dTC_unbuiltOn_14 ?_
  exact tv_iret dTC_unbuiltOn_15 rfl rfl rfl rfl
set_option maxHeartbeats 4000000 in
set_option maxRecDepth 100000 in
theorem cl_platformsHaving_4 (σ : tcS) (hI : tc_I σ) (w : Int32) {K : tcK} : ∀ (n : Nat) (p : Nat), p + n = σ.2.2.2 0 → K.2.1 = some (.inl (tc_phav σ w)) → K.2.2.1 = tc_hC σ → tc_V (cTC_platformsHaving, 4, yTC_platformsHaving.cls, some .int, 0, yTC_platformsHaving.name) K 0 0 (tc_hC σ) 4 [some (.inr (some 0)), some (.inl w), some (.inl (tc_mk (fun p => tc_fit w (σ.1 0 p)) p)), some (.inl (nI p))] [] := by
  intro n
  induction n with
  | zero =>
    intro p hp hr hh
    obtain ⟨iP, iT, iN, iA, iR, iK, iO, iQ, iF, iB⟩ := id hI
    refine tv_iload_n dTC_platformsHaving_4 rfl rfl ?_
    refine tv_aload_n dTC_platformsHaving_5 rfl rfl ?_
    refine gTC_13 rfl dTC_platformsHaving_6 ?_
    refine tv_icmp_ge (tgt := 37) dTC_platformsHaving_9 (by decide) (fun c9 => ?_) (fun c9 => absurd (nI_le (by omega) (by omega)) c9)
    refine tv_iload_n dTC_platformsHaving_37 rfl rfl ?_
    exact tv_iret dTC_platformsHaving_38 rfl rfl (by rw [hr, tc_phav, show σ.2.2.2 0 = p by omega]) hh
  | succ n ih =>
    intro p hp hr hh
    obtain ⟨iP, iT, iN, iA, iR, iK, iO, iQ, iF, iB⟩ := id hI
    refine tv_iload_n dTC_platformsHaving_4 rfl rfl ?_
    refine tv_aload_n dTC_platformsHaving_5 rfl rfl ?_
    refine gTC_13 rfl dTC_platformsHaving_6 ?_
    refine tv_icmp_ge (tgt := 37) dTC_platformsHaving_9 (by decide) (fun c9 => absurd c9 (nI_ge (by omega) (by omega))) (fun c9 => ?_)
    refine tv_iload_n dTC_platformsHaving_12 rfl rfl ?_
    refine tv_aload_n dTC_platformsHaving_13 rfl rfl ?_
    refine gTC_9 rfl dTC_platformsHaving_14 ?_
    refine tv_iload_n dTC_platformsHaving_17 rfl rfl ?_
    refine ldC_1 dTC_platformsHaving_18 (by omega) ?_
    refine tv_iconst (v := -1) dTC_platformsHaving_19 (by decide) ?_
    refine tv_ixor dTC_platformsHaving_20 ?_
    refine tv_iand dTC_platformsHaving_21 ?_
    refine tv_if_ne (tgt := 31) dTC_platformsHaving_22 (by decide) (fun c22 => ?_) (fun c22 => ?_)
    · have e22 := tc_mk_no (f := fun p => tc_fit w (σ.1 0 p)) (n := p) (decide_eq_false c22)
      have h9 := ih (p + 1) (by omega) hr hh
      refine tv_iinc_3 dTC_platformsHaving_31 (by decide) (nI_1 p) ?_
      refine tv_goto (tgt := 4) dTC_platformsHaving_34 (by decide) ?_
      rw [e22] at h9
      exact h9
    · have e22 := tc_mk_yes (f := fun p => tc_fit w (σ.1 0 p)) (n := p) (decide_eq_true c22)
      have h9 := ih (p + 1) (by omega) hr hh
      refine tv_iload_n dTC_platformsHaving_25 rfl rfl ?_
      refine tv_iconst (v := 1) dTC_platformsHaving_26 (by decide) ?_
      refine tv_iload_n dTC_platformsHaving_27 rfl rfl ?_
      refine tv_ishl dTC_platformsHaving_28 ?_
      refine tv_ior dTC_platformsHaving_29 ?_
      refine tv_istN_2 dTC_platformsHaving_30 (by decide) ?_
      refine tv_iinc_3 dTC_platformsHaving_31 (by decide) (nI_1 p) ?_
      refine tv_goto (tgt := 4) dTC_platformsHaving_34 (by decide) ?_
      rw [e22] at h9
      exact h9
set_option maxHeartbeats 4000000 in
set_option maxRecDepth 100000 in
theorem cc_platformsHaving (σ : tcS) (hI : tc_I σ) (w : Int32) : tc_M yTC_platformsHaving cTC_platformsHaving 4 (some .int) 0 [.inr (some 0), .inl w] (tc_hC σ, some (.inl (tc_phav σ w)), tc_hC σ, 0, 0) := by
  refine tc_met (by decide) (Nat.le_of_ble_eq_true rfl) (Nat.le_of_eq tc_hC_len) rfl ?_
  refine tv_iconst (v := 0) dTC_platformsHaving_0 (by decide) ?_
  refine tv_istN_2 dTC_platformsHaving_1 (by decide) ?_
  refine tv_iconst (v := 0) dTC_platformsHaving_2 (by decide) ?_
  refine tv_istN_3 dTC_platformsHaving_3 (by decide) ?_
  exact cl_platformsHaving_4 σ hI w (σ.2.2.2 0) 0 (by omega) rfl rfl
set_option maxHeartbeats 4000000 in
set_option maxRecDepth 100000 in
theorem cl_platformsWithSupplies_9 (σ : tcS) {t : Nat} (ht : t < 24) {K : tcK} : ∀ (n : Nat) (k : Nat), k + n = 8 → K.2.1 = some (.inl (tc_pws (σ.1 5 t) (σ.1 4 t) (σ.1 8) 8)) → K.2.2.1 = tc_hC σ → tc_V (cTC_platformsWithSupplies, 4, yTC_platformsWithSupplies.cls, some .int, 1, yTC_platformsWithSupplies.name) K 0 0 (tc_hC σ) 9 [some (.inr (some 0)), some (.inl (nI t)), some (.inl (tc_pws (σ.1 5 t) (σ.1 4 t) (σ.1 8) k)), some (.inl (nI k))] [] := by
  intro n
  induction n with
  | zero =>
    intro k hk hr hh
    refine tv_iload_n dTC_platformsWithSupplies_9 rfl rfl ?_
    refine tv_bipush (v := 8) dTC_platformsWithSupplies_10 (by decide) ?_
    refine tv_icmp_ge (tgt := 43) dTC_platformsWithSupplies_12 (by decide) (fun c12 => ?_) (fun c12 => absurd (nI_le (a := 8) (b := k) (by omega) (by omega)) c12)
    refine tv_iload_n dTC_platformsWithSupplies_43 rfl rfl ?_
    exact tv_iret dTC_platformsWithSupplies_44 rfl rfl (by rw [hr, show 8 = k by omega]) hh
  | succ n ih =>
    intro k hk hr hh
    refine tv_iload_n dTC_platformsWithSupplies_9 rfl rfl ?_
    refine tv_bipush (v := 8) dTC_platformsWithSupplies_10 (by decide) ?_
    refine tv_icmp_ge (tgt := 43) dTC_platformsWithSupplies_12 (by decide) (fun c12 => absurd c12 (nI_ge (a := k) (b := 8) (by omega) (by omega))) (fun c12 => ?_)
    refine tv_aload_n dTC_platformsWithSupplies_15 rfl rfl ?_
    refine gTC_29 rfl dTC_platformsWithSupplies_16 ?_
    refine tv_iload_n dTC_platformsWithSupplies_19 rfl rfl ?_
    refine ldC_6 dTC_platformsWithSupplies_20 ht ?_
    refine tv_iload_n dTC_platformsWithSupplies_21 rfl rfl ?_
    refine tv_callS2r kTC_93 (by decide) (Nat.le_of_ble_eq_true rfl) ⟨rfl, rfl⟩ (cc_hasBit _ _ (by omega)) ⟨Nat.zero_le _, Nat.zero_le _⟩ dTC_platformsWithSupplies_22 ?_
    refine tv_if_eq (tgt := 37) dTC_platformsWithSupplies_25 (by decide) (fun c25 => ?_) (fun c25 => ?_)
    · have e25 := tc_pws_no (r := σ.1 5 t) (sup := σ.1 8) (tc_b2_0.mp c25)
      have h9 := ih (k + 1) (by omega) hr hh
      refine tv_iinc_3 dTC_platformsWithSupplies_37 (by decide) (nI_1 k) ?_
      refine tv_goto (tgt := 9) dTC_platformsWithSupplies_40 (by decide) ?_
      rw [e25] at h9
      exact h9
    · have e25 := tc_pws_yes (r := σ.1 5 t) (sup := σ.1 8) (tc_b2_n.mp c25)
      have h9 := ih (k + 1) (by omega) hr hh
      refine tv_iload_n dTC_platformsWithSupplies_28 rfl rfl ?_
      refine tv_aload_n dTC_platformsWithSupplies_29 rfl rfl ?_
      refine gTC_70 rfl dTC_platformsWithSupplies_30 ?_
      refine tv_iload_n dTC_platformsWithSupplies_33 rfl rfl ?_
      refine ldC_19 dTC_platformsWithSupplies_34 (by omega) ?_
      refine tv_iand dTC_platformsWithSupplies_35 ?_
      refine tv_istN_2 dTC_platformsWithSupplies_36 (by decide) ?_
      refine tv_iinc_3 dTC_platformsWithSupplies_37 (by decide) (nI_1 k) ?_
      refine tv_goto (tgt := 9) dTC_platformsWithSupplies_40 (by decide) ?_
      rw [e25] at h9
      exact h9
set_option maxHeartbeats 4000000 in
set_option maxRecDepth 100000 in
theorem cc_platformsWithSupplies (σ : tcS) {t : Nat} (ht : t < 24) : tc_M yTC_platformsWithSupplies cTC_platformsWithSupplies 4 (some .int) 1 [.inr (some 0), .inl (nI t)] (tc_hC σ, some (.inl (tc_pws (σ.1 5 t) (σ.1 4 t) (σ.1 8) 8)), tc_hC σ, 0, 0) := by
  refine tc_met (by decide) (Nat.le_of_ble_eq_true rfl) (Nat.le_of_eq tc_hC_len) rfl ?_
  refine tv_aload_n dTC_platformsWithSupplies_0 rfl rfl ?_
  refine gTC_61 rfl dTC_platformsWithSupplies_1 ?_
  refine tv_iload_n dTC_platformsWithSupplies_4 rfl rfl ?_
  refine ldC_16 dTC_platformsWithSupplies_5 ht ?_
  refine tv_istN_2 dTC_platformsWithSupplies_6 (by decide) ?_
  refine tv_iconst (v := 0) dTC_platformsWithSupplies_7 (by decide) ?_
  refine tv_istN_3 dTC_platformsWithSupplies_8 (by decide) ?_
  exact cl_platformsWithSupplies_9 σ ht 8 0 rfl rfl rfl
theorem tc_gb_eq {t : Nat} {a : tcS × Bool} (h : tc_pws (a.1.1 5 t) (a.1.1 4 t) (a.1.1 8) 8 = a.1.1 7 t) : tc_gb t a = a := by unfold tc_gb; rw [if_pos h]
def tc_gs (t : Nat) (σ : tcS) : tcS := tc_s1 (tc_s1 σ 7 (upd (σ.1 7) t (tc_pws (σ.1 5 t) (σ.1 4 t) (σ.1 8) 8))) 8 (upd (σ.1 8) (σ.2.1 0 t) (σ.1 8 (σ.2.1 0 t) ||| σ.1 6 t))
theorem tc_gb_ne {t : Nat} {a : tcS × Bool} (h : ¬ tc_pws (a.1.1 5 t) (a.1.1 4 t) (a.1.1 8) 8 = a.1.1 7 t) : tc_gb t a = (tc_gs t a.1, true) := by unfold tc_gb; rw [if_neg h]; rfl
theorem tc_gb_k (t : Nat) (a : tcS × Bool) : (tc_gb t a).1.2 = a.1.2 ∧ (tc_gb t a).1.1 11 = a.1.1 11 := by
  unfold tc_gb
  split
  · exact ⟨rfl, rfl⟩
  · exact ⟨rfl, rfl⟩
theorem tc_up_k {f : Nat → tcS × Bool → tcS × Bool} (hf : ∀ t a, (f t a).1.2 = a.1.2 ∧ (f t a).1.1 11 = a.1.1 11) : ∀ (n t : Nat) (a : tcS × Bool), (tc_up f n t a).1.2 = a.1.2 ∧ (tc_up f n t a).1.1 11 = a.1.1 11
  | 0, _, _ => ⟨rfl, rfl⟩
  | n + 1, t, a => by
    have h1 := tc_up_k hf n (t + 1) (f t a)
    have h2 := hf t a
    exact ⟨h1.1.trans h2.1, h1.2.trans h2.2⟩
theorem tc_up_k1 {f : Nat → tcS → tcS} (hf : ∀ t a, (f t a).2 = a.2 ∧ (f t a).1 11 = a.1 11) : ∀ (n t : Nat) (a : tcS), (tc_up f n t a).2 = a.2 ∧ (tc_up f n t a).1 11 = a.1 11
  | 0, _, _ => ⟨rfl, rfl⟩
  | n + 1, t, a => by
    have h1 := tc_up_k1 hf n (t + 1) (f t a)
    have h2 := hf t a
    exact ⟨h1.1.trans h2.1, h1.2.trans h2.2⟩
theorem tc_grow_k (σ : tcS) : (tc_grow σ).1.2 = σ.2 ∧ (tc_grow σ).1.1 11 = σ.1 11 := tc_up_k tc_gb_k _ _ _
set_option maxHeartbeats 4000000 in
set_option maxRecDepth 100000 in
theorem cl_growBuilt_4  {K : tcK} : ∀ (n : Nat) (t : Nat) (a : tcS × Bool), tc_I a.1 → t + n = a.1.2.2.2 1 → K.2.1 = some (.inl (tc_b2 (tc_up tc_gb n t a).2)) → K.2.2.1 = tc_hC (tc_up tc_gb n t a).1 → tc_V (cTC_growBuilt, 4, yTC_growBuilt.cls, some .boolean, 2, yTC_growBuilt.name) K 0 0 (tc_hC a.1) 4 [some (.inr (some 0)), some (.inl (tc_b2 a.2)), some (.inl (nI t)), none] [] := by
  intro n
  induction n with
  | zero =>
    intro t a hI ht hr hh
    obtain ⟨iP, iT, iN, iA, iR, iK, iO, iQ, iF, iB⟩ := id hI
    refine tv_iload_n dTC_growBuilt_4 rfl rfl ?_
    refine tv_aload_n dTC_growBuilt_5 rfl rfl ?_
    refine gTC_35 rfl dTC_growBuilt_6 ?_
    refine tv_icmp_ge (tgt := 63) dTC_growBuilt_9 (by decide) (fun c9 => ?_) (fun c9 => absurd (nI_le (by omega) (by omega)) c9)
    refine tv_iload_n dTC_growBuilt_63 rfl rfl ?_
    exact tv_iret dTC_growBuilt_64 rfl (by cases a.2 <;> rfl) hr hh
  | succ n ih =>
    intro t a hI ht hr hh
    obtain ⟨iP, iT, iN, iA, iR, iK, iO, iQ, iF, iB⟩ := id hI
    refine tv_iload_n dTC_growBuilt_4 rfl rfl ?_
    refine tv_aload_n dTC_growBuilt_5 rfl rfl ?_
    refine gTC_35 rfl dTC_growBuilt_6 ?_
    refine tv_icmp_ge (tgt := 63) dTC_growBuilt_9 (by decide) (fun c9 => absurd c9 (nI_ge (by omega) (by omega))) (fun c9 => ?_)
    refine tv_aload_n dTC_growBuilt_12 rfl rfl ?_
    refine tv_iload_n dTC_growBuilt_13 rfl rfl ?_
    refine tv_callV1r kTC_165 (by decide) (Nat.le_of_ble_eq_true rfl) ⟨rfl, rfl⟩ rfl (cc_platformsWithSupplies a.1 (by omega)) ⟨Nat.zero_le _, Nat.zero_le _⟩ dTC_growBuilt_14 ?_
    refine tv_istN_3 dTC_growBuilt_17 (by decide) ?_
    refine tv_iload_n dTC_growBuilt_18 rfl rfl ?_
    refine tv_aload_n dTC_growBuilt_19 rfl rfl ?_
    refine gTC_67 rfl dTC_growBuilt_20 ?_
    refine tv_iload_n dTC_growBuilt_23 rfl rfl ?_
    refine ldC_18 dTC_growBuilt_24 (by omega) ?_
    refine tv_icmp_eq (tgt := 57) dTC_growBuilt_25 (by decide) (fun c25 => ?_) (fun c25 => ?_)
    · have h9 := ih (t + 1) a hI (by omega) (by rw [hr]; show some (Sum.inl (tc_b2 (tc_up tc_gb n (t + 1) (tc_gb t a)).2)) = _; rw [tc_gb_eq c25]) (by rw [hh]; show tc_hC (tc_up tc_gb n (t + 1) (tc_gb t a)).1 = _; rw [tc_gb_eq c25])
      refine tv_iinc_2 dTC_growBuilt_57 (by decide) (nI_1 t) ?_
      refine tv_goto (tgt := 4) dTC_growBuilt_60 (by decide) ?_
      refine tv_fg_3 ?_
      exact h9
    · have h9 := ih (t + 1) (tc_gs t a.1, true) (tc_I_of hI rfl rfl) (by show t + 1 + n = a.1.2.2.2 1; omega) (by rw [hr]; show some (Sum.inl (tc_b2 (tc_up tc_gb n (t + 1) (tc_gb t a)).2)) = _; rw [tc_gb_ne c25]) (by rw [hh]; show tc_hC (tc_up tc_gb n (t + 1) (tc_gb t a)).1 = _; rw [tc_gb_ne c25])
      refine tv_aload_n dTC_growBuilt_28 rfl rfl ?_
      refine gTC_67 rfl dTC_growBuilt_29 ?_
      refine tv_iload_n dTC_growBuilt_32 rfl rfl ?_
      refine tv_iload_n dTC_growBuilt_33 rfl rfl ?_
      refine stC_18 dTC_growBuilt_34 (by omega) ?_
      refine tv_aload_n dTC_growBuilt_35 rfl rfl ?_
      refine gTC_70 rfl dTC_growBuilt_36 ?_
      refine tv_aload_n dTC_growBuilt_39 rfl rfl ?_
      refine gTC_17 rfl dTC_growBuilt_40 ?_
      refine tv_iload_n dTC_growBuilt_43 rfl rfl ?_
      refine ldC_2 dTC_growBuilt_44 (by omega) ?_
      refine tv_dup2 dTC_growBuilt_45 ?_
      refine ldC_19 dTC_growBuilt_46 (iK t (by omega)) ?_
      refine tv_aload_n dTC_growBuilt_47 rfl rfl ?_
      refine gTC_64 rfl dTC_growBuilt_48 ?_
      refine tv_iload_n dTC_growBuilt_51 rfl rfl ?_
      refine ldC_17 dTC_growBuilt_52 (by omega) ?_
      refine tv_ior dTC_growBuilt_53 ?_
      refine stC_19 dTC_growBuilt_54 (iK t (by omega)) ?_
      refine tv_iconst (v := 1) dTC_growBuilt_55 (by decide) ?_
      refine tv_istN_1 dTC_growBuilt_56 (by decide) ?_
      refine tv_iinc_2 dTC_growBuilt_57 (by decide) (nI_1 t) ?_
      refine tv_goto (tgt := 4) dTC_growBuilt_60 (by decide) ?_
      refine tv_fg_3 ?_
      exact h9
set_option maxHeartbeats 4000000 in
set_option maxRecDepth 100000 in
theorem cc_growBuilt (σ : tcS) (hI : tc_I σ) : tc_M yTC_growBuilt cTC_growBuilt 4 (some .boolean) 2 [.inr (some 0)] (tc_hC σ, some (.inl (tc_b2 (tc_grow σ).2)), tc_hC (tc_grow σ).1, 0, 0) := by
  refine tc_met (by decide) (Nat.le_of_ble_eq_true rfl) (Nat.le_of_eq tc_hC_len) rfl ?_
  refine tv_iconst (v := 0) dTC_growBuilt_0 (by decide) ?_
  refine tv_istN_1 dTC_growBuilt_1 (by decide) ?_
  refine tv_iconst (v := 0) dTC_growBuilt_2 (by decide) ?_
  refine tv_istN_2 dTC_growBuilt_3 (by decide) ?_
  exact cl_growBuilt_4 (σ.2.2.2 1) 0 (σ, false) hI (by show 0 + _ = σ.2.2.2 1; omega) rfl rfl
end
section
theorem tc_fill_0 {α : Type} {v : α} {f : Nat → α} : tc_fill 0 v f = f := by
  funext j
  simp [tc_fill]
theorem tc_fill_s {v : Int32} {f : Nat → Int32} {k : Nat} : upd (tc_fill k v f) k v = tc_fill (k + 1) v f := by
  funext j
  unfold upd tc_fill
  by_cases h : j = k
  · subst h
    simp
  · have : (j < k + 1) ↔ (j < k) := by omega
    simp [h, this]
theorem tc_fill_o {n : Nat} {v : Option Nat} {f : Nat → Option Nat} : tc_fill n (tc_oI v) (fun j => tc_oI (f j)) = fun j => tc_oI (tc_fill n v f j) := by
  funext j
  unfold tc_fill
  split <;> rfl
theorem tc_set_same {α : Type} : ∀ (l : List α) (k : Nat) (a : α), l[k]? = some a → l.set k a = l
  | [], k, a, h => by simp at h
  | x :: l, 0, a, h => by simp at h; subst h; rfl
  | x :: l, k + 1, a, h => by
    show x :: l.set k a = x :: l
    rw [tc_set_same l k a (by simpa using h)]
set_option maxHeartbeats 4000000 in
set_option maxRecDepth 100000 in
theorem cl_fill_5 {K : tcK} {h0 : List tcC} {q m : Nat} {f : Nat → Int32} {v : Int32} (hm : m < 2 ^ 31) (hq : h0[q]? = some (.inl (0, m, .inl f))) (hr : K.2.1 = none) (hh : K.2.2.1 = h0.set q (.inl (0, m, .inl (tc_fill m v f)))) : ∀ (n : Nat) (i : Nat), i + n = m → tc_V (cAR_fill, 4, yAR_fill.cls, none, 0, yAR_fill.name) K 0 0 (h0.set q (.inl (0, m, .inl (tc_fill i v f)))) 5 [some (.inr (some q)), some (.inl v), some (.inl (nI i)), some (.inl (nI m))] [] := by
  have hlt : q < h0.length := (List.getElem?_eq_some_iff.mp hq).1
  intro n
  induction n with
  | zero =>
    intro i hi
    have ei : i = m := by omega
    subst ei
    refine tv_iload_n dAR_fill_5 rfl rfl ?_
    refine tv_iload_n dAR_fill_6 rfl rfl ?_
    refine tv_icmp_ge (tgt := 20) dAR_fill_7 (by decide) (fun c7 => ?_) (fun c7 => absurd (nI_le (Nat.le_refl _) hm) c7)
    exact tv_vret dAR_fill_20 rfl hr hh
  | succ n ih =>
    intro i hi
    refine tv_iload_n dAR_fill_5 rfl rfl ?_
    refine tv_iload_n dAR_fill_6 rfl rfl ?_
    refine tv_icmp_ge (tgt := 20) dAR_fill_7 (by decide) (fun c7 => absurd c7 (nI_ge (by omega) (by omega))) (fun c7 => ?_)
    refine tv_aload_n dAR_fill_10 rfl rfl ?_
    refine tv_iload_n dAR_fill_11 rfl rfl ?_
    refine tv_iload_n dAR_fill_12 rfl rfl ?_
    refine tv_iastN dAR_fill_13 (List.getElem?_set_self hlt) hm (by omega) (by rw [List.set_set, tc_fill_s]) ?_
    refine tv_iinc_2 dAR_fill_14 (by decide) (nI_1 i) ?_
    refine tv_goto (tgt := 5) dAR_fill_17 (by decide) ?_
    exact ih (i + 1) (by omega)
set_option maxHeartbeats 4000000 in
set_option maxRecDepth 100000 in
theorem cc_fill {h0 : List tcC} {q m : Nat} {f : Nat → Int32} {v : Int32} (hm : m < 2 ^ 31) (hq : h0[q]? = some (.inl (0, m, .inl f))) : tc_M yAR_fill cAR_fill 4 none 0 [.inr (some q), .inl v] (h0, none, h0.set q (.inl (0, m, .inl (tc_fill m v f))), 0, 0) := by
  refine tc_met (by decide) (Nat.le_of_ble_eq_true rfl) (by show h0.length ≤ _; rw [List.length_set]; exact Nat.le_refl _) rfl ?_
  refine tv_iconst (v := 0) dAR_fill_0 (by decide) ?_
  refine tv_istN_2 dAR_fill_1 (by decide) ?_
  refine tv_aload_n dAR_fill_2 rfl rfl ?_
  refine tv_alen (v := nI m) dAR_fill_3 hq (by decide) rfl ?_
  refine tv_istN_3 dAR_fill_4 (by decide) ?_
  have h9 := cl_fill_5 (K := (h0, none, h0.set q (.inl (0, m, .inl (tc_fill m v f))), 0, 0)) hm hq rfl rfl m 0 (by omega)
  rw [tc_fill_0, tc_set_same _ _ _ hq] at h9
  exact h9
theorem tc_i0_k (t : Nat) (σ : tcS) : (tc_i0 t σ).2 = σ.2 ∧ (tc_i0 t σ).1 11 = σ.1 11 := ⟨rfl, rfl⟩
theorem tc_pass_k : ∀ (n : Nat) (a : tcS × Bool), (tc_pass n a).2 = a.1.2 ∧ (tc_pass n a).1 11 = a.1.1 11
  | 0, _ => ⟨rfl, rfl⟩
  | n + 1, a => by
    unfold tc_pass
    split
    · have h1 := tc_pass_k n (tc_grow a.1)
      have h2 := tc_grow_k a.1
      exact ⟨h1.1.trans h2.1, h1.2.trans h2.2⟩
    · exact ⟨rfl, rfl⟩
theorem tc_pass_t {n : Nat} {a : tcS × Bool} (h : a.2 = true) : tc_pass (n + 1) a = tc_pass n (tc_grow a.1) := by rw [tc_pass, if_pos h]
theorem tc_pass_f {n : Nat} {a : tcS × Bool} (h : a.2 = false) : tc_pass (n + 1) a = a.1 := by rw [tc_pass, if_neg (by rw [h]; simp)]
theorem tc_settle_k (σ : tcS) : (tc_settle σ).2 = σ.2 ∧ (tc_settle σ).1 11 = σ.1 11 := by
  have h1 := tc_pass_k (σ.2.2.2 1 + 1) (tc_s1 (tc_up tc_i0 (σ.2.2.2 1) 0 σ) 8 (tc_fill 8 0 ((tc_up tc_i0 (σ.2.2.2 1) 0 σ).1 8)), true)
  have h2 := tc_up_k1 tc_i0_k (σ.2.2.2 1) 0 σ
  exact ⟨h1.1.trans h2.1, h1.2.trans h2.2⟩
set_option maxHeartbeats 4000000 in
set_option maxRecDepth 100000 in
theorem cl_settleBuilt_2  {K : tcK} : ∀ (n : Nat) (t : Nat) (ρ : tcS), tc_I ρ → t + n = ρ.2.2.2 1 → tc_V (cTC_settleBuilt, 3, yTC_settleBuilt.cls, none, 3, yTC_settleBuilt.name) K 0 0 (tc_hC (tc_up tc_i0 n t ρ)) 55 [some (.inr (some 0)), none, none] [] → tc_V (cTC_settleBuilt, 3, yTC_settleBuilt.cls, none, 3, yTC_settleBuilt.name) K 0 0 (tc_hC ρ) 2 [some (.inr (some 0)), some (.inl (nI t)), none] [] := by
  intro n
  induction n with
  | zero =>
    intro t ρ hI ht hx
    obtain ⟨iP, iT, iN, iA, iR, iK, iO, iQ, iF, iB⟩ := id hI
    refine tv_iload_n dTC_settleBuilt_2 rfl rfl ?_
    refine tv_aload_n dTC_settleBuilt_3 rfl rfl ?_
    refine gTC_35 rfl dTC_settleBuilt_4 ?_
    refine tv_icmp_ge (tgt := 55) dTC_settleBuilt_7 (by decide) (fun c7 => ?_) (fun c7 => absurd (nI_le (by omega) (by omega)) c7)
    refine tv_fg_1 ?_
    exact hx
  | succ n ih =>
    intro t ρ hI ht hx
    obtain ⟨iP, iT, iN, iA, iR, iK, iO, iQ, iF, iB⟩ := id hI
    refine tv_iload_n dTC_settleBuilt_2 rfl rfl ?_
    refine tv_aload_n dTC_settleBuilt_3 rfl rfl ?_
    refine gTC_35 rfl dTC_settleBuilt_4 ?_
    refine tv_icmp_ge (tgt := 55) dTC_settleBuilt_7 (by decide) (fun c7 => absurd c7 (nI_ge (by omega) (by omega))) (fun c7 => ?_)
    refine tv_aload_n dTC_settleBuilt_10 rfl rfl ?_
    refine gTC_61 rfl dTC_settleBuilt_11 ?_
    refine tv_iload_n dTC_settleBuilt_14 rfl rfl ?_
    refine tv_aload_n dTC_settleBuilt_15 rfl rfl ?_
    refine tv_aload_n dTC_settleBuilt_16 rfl rfl ?_
    refine gTC_20 rfl dTC_settleBuilt_17 ?_
    refine tv_iload_n dTC_settleBuilt_20 rfl rfl ?_
    refine ldC_3 dTC_settleBuilt_21 (by omega) ?_
    refine tv_callV1r kTC_158 (by decide) (Nat.le_of_ble_eq_true rfl) ⟨rfl, rfl⟩ rfl (cc_platformsHaving ρ hI (ρ.1 1 t)) ⟨Nat.zero_le _, Nat.zero_le _⟩ dTC_settleBuilt_22 ?_
    refine stC_16 dTC_settleBuilt_25 (by omega) ?_
    refine tv_aload_n dTC_settleBuilt_26 rfl rfl ?_
    refine gTC_64 rfl dTC_settleBuilt_27 ?_
    refine tv_iload_n dTC_settleBuilt_30 rfl rfl ?_
    refine tv_aload_n dTC_settleBuilt_31 rfl rfl ?_
    refine tv_aload_n dTC_settleBuilt_32 rfl rfl ?_
    refine gTC_23 rfl dTC_settleBuilt_33 ?_
    refine tv_iload_n dTC_settleBuilt_36 rfl rfl ?_
    refine ldC_4 dTC_settleBuilt_37 (by omega) ?_
    refine tv_top (b := .inl (ρ.1 2 t)) rfl ?_
    refine tv_callV1r kTC_158 (by decide) (Nat.le_of_ble_eq_true rfl) ⟨rfl, rfl⟩ rfl (cc_platformsHaving (tc_s1 ρ 5 (upd (ρ.1 5) t (tc_phav ρ (ρ.1 1 t)))) (tc_I_of hI rfl rfl) (ρ.1 2 t)) ⟨Nat.zero_le _, Nat.zero_le _⟩ dTC_settleBuilt_38 ?_
    refine tv_top (b := .inl (tc_phav ρ (ρ.1 2 t))) rfl ?_
    refine stC_17 dTC_settleBuilt_41 (by omega) ?_
    refine tv_eq (h' := tc_hC (tc_s1 (tc_s1 ρ 5 (upd (ρ.1 5) t (tc_phav ρ (ρ.1 1 t)))) 6 (upd (ρ.1 6) t (tc_phav ρ (ρ.1 2 t))))) ?_ rfl rfl rfl
    refine tv_aload_n dTC_settleBuilt_42 rfl rfl ?_
    refine gTC_67 rfl dTC_settleBuilt_43 ?_
    refine tv_iload_n dTC_settleBuilt_46 rfl rfl ?_
    refine tv_iconst (v := 0) dTC_settleBuilt_47 (by decide) ?_
    refine stC_18 dTC_settleBuilt_48 (by omega) ?_
    refine tv_eq (h' := tc_hC (tc_i0 t ρ)) ?_ rfl rfl rfl
    refine tv_iinc_1 dTC_settleBuilt_49 (by decide) (nI_1 t) ?_
    refine tv_goto (tgt := 2) dTC_settleBuilt_52 (by decide) ?_
    exact ih (t + 1) (tc_i0 t ρ) (tc_I_of hI rfl rfl) (by show t + 1 + n = ρ.2.2.2 1; omega) hx
set_option maxHeartbeats 4000000 in
set_option maxRecDepth 100000 in
theorem cl_settleBuilt_67  {K : tcK} : ∀ (n : Nat) (p : Nat) (a : tcS × Bool), tc_I a.1 → p + n = a.1.2.2.2 1 + 1 → K.2.1 = none → K.2.2.1 = tc_hC (tc_pass n a) → tc_V (cTC_settleBuilt, 3, yTC_settleBuilt.cls, none, 3, yTC_settleBuilt.name) K 0 0 (tc_hC a.1) 67 [some (.inr (some 0)), some (.inl (tc_b2 a.2)), some (.inl (nI p))] [] := by
  intro n
  induction n with
  | zero =>
    intro p a hI hp hr hh
    obtain ⟨iP, iT, iN, iA, iR, iK, iO, iQ, iF, iB⟩ := id hI
    refine tv_iload_n dTC_settleBuilt_67 rfl rfl ?_
    refine tv_aload_n dTC_settleBuilt_68 rfl rfl ?_
    refine gTC_35 rfl dTC_settleBuilt_69 ?_
    refine tv_icmp_gt (tgt := 90) dTC_settleBuilt_72 (by decide) (fun c72 => ?_) (fun c72 => absurd (nI_lt (by omega) (by omega)) c72)
    exact tv_vret dTC_settleBuilt_90 rfl hr hh
  | succ n ih =>
    intro p a hI hp hr hh
    obtain ⟨iP, iT, iN, iA, iR, iK, iO, iQ, iF, iB⟩ := id hI
    refine tv_iload_n dTC_settleBuilt_67 rfl rfl ?_
    refine tv_aload_n dTC_settleBuilt_68 rfl rfl ?_
    refine gTC_35 rfl dTC_settleBuilt_69 ?_
    refine tv_icmp_gt (tgt := 90) dTC_settleBuilt_72 (by decide) (fun c72 => absurd c72 (nI_nlt (by omega) (by omega))) (fun c72 => ?_)
    refine tv_iload_n dTC_settleBuilt_75 rfl rfl ?_
    refine tv_if_eq (tgt := 90) dTC_settleBuilt_76 (by decide) (fun c76 => ?_) (fun c76 => ?_)
    · have e76 := tc_b2_0.mp c76
      exact tv_vret dTC_settleBuilt_90 rfl hr (by rw [hh, tc_pass_f e76])
    · refine tv_aload_n dTC_settleBuilt_79 rfl rfl ?_
      refine tv_callV0r kTC_161 (by decide) (Nat.le_of_ble_eq_true rfl) ⟨rfl, rfl⟩ rfl (cc_growBuilt a.1 hI) ⟨Nat.zero_le _, Nat.zero_le _⟩ dTC_settleBuilt_80 ?_
      refine tv_istN_1 dTC_settleBuilt_83 (by decide) ?_
      refine tv_iinc_2 dTC_settleBuilt_84 (by decide) (nI_1 p) ?_
      refine tv_goto (tgt := 67) dTC_settleBuilt_87 (by decide) ?_
      exact ih (p + 1) (tc_grow a.1) (tc_I_of hI (tc_grow_k a.1).1 (tc_grow_k a.1).2) (by rw [(tc_grow_k a.1).1]; omega) hr (by rw [hh, tc_pass_t (tc_b2_n.mp c76)])
set_option maxHeartbeats 4000000 in
set_option maxRecDepth 100000 in
theorem cc_settleBuilt (σ : tcS) (hI : tc_I σ) : tc_M yTC_settleBuilt cTC_settleBuilt 3 (none) 3 [.inr (some 0)] (tc_hC σ, none, tc_hC (tc_settle σ), 0, 0) := by
  refine tc_met (by decide) (Nat.le_of_ble_eq_true rfl) (Nat.le_of_eq tc_hC_len) rfl ?_
  refine tv_iconst (v := 0) dTC_settleBuilt_0 (by decide) ?_
  refine tv_istN_1 dTC_settleBuilt_1 (by decide) ?_
  refine cl_settleBuilt_2 (σ.2.2.2 1) 0 σ hI (by omega) ?_
  have hk := tc_up_k1 tc_i0_k (σ.2.2.2 1) 0 σ
  generalize hτ : tc_up tc_i0 (σ.2.2.2 1) 0 σ = τ at hk ⊢
  have hI1 : tc_I τ := tc_I_of hI hk.1 hk.2
  refine tv_aload_n dTC_settleBuilt_55 rfl rfl ?_
  refine gTC_70 rfl dTC_settleBuilt_56 ?_
  refine tv_iconst (v := 0) dTC_settleBuilt_59 (by decide) ?_
  refine tv_callS2v kTC_76 (by decide) (Nat.le_of_ble_eq_true rfl) ⟨rfl, rfl⟩ (cc_fill (h0 := tc_hC τ) (q := 19) (m := 8) (f := τ.1 8) (v := 0) (by decide) rfl) ⟨Nat.zero_le _, Nat.zero_le _⟩ dTC_settleBuilt_60 ?_
  refine tv_eq (h' := tc_hC (tc_s1 τ 8 (tc_fill 8 0 (τ.1 8)))) ?_ rfl rfl rfl
  refine tv_iconst (v := 1) dTC_settleBuilt_63 (by decide) ?_
  refine tv_istN_1 dTC_settleBuilt_64 (by decide) ?_
  refine tv_iconst (v := 0) dTC_settleBuilt_65 (by decide) ?_
  refine tv_istN_2 dTC_settleBuilt_66 (by decide) ?_
  exact cl_settleBuilt_67 (τ.2.2.2 1 + 1) 0 (tc_s1 τ 8 (tc_fill 8 0 (τ.1 8)), true) (tc_I_of hI1 rfl rfl) (by show 0 + _ = τ.2.2.2 1 + 1; omega) rfl (by show tc_hC (tc_settle σ) = _; unfold tc_settle; rw [hτ, hk.1])
end
section
set_option maxHeartbeats 4000000 in
set_option maxRecDepth 100000 in
theorem cl_stepsFrom_4 (σ : tcS) (hI : tc_I σ) {t : Nat} (ht : t < 24) {K : tcK} : ∀ (n : Nat) (x : Nat), x + n = σ.2.2.2 1 → K.2.1 = some (.inl (tc_steps σ t)) → K.2.2.1 = tc_hC σ → tc_V (cTC_stepsFrom, 6, yTC_stepsFrom.cls, some .int, 1, yTC_stepsFrom.name) K 0 0 (tc_hC σ) 4 [some (.inr (some 0)), some (.inl (nI t)), some (.inl (tc_mk (fun n => bt (σ.1 4 t) (σ.2.1 0 n) && (!decide (σ.1 6 n &&& tc_unb σ t = 0) && !decide (tc_unb σ n = 0))) x)), some (.inl (nI x)), none, none] [] := by
  intro n
  induction n with
  | zero =>
    intro x hx hr hh
    obtain ⟨iP, iT, iN, iA, iR, iK, iO, iQ, iF, iB⟩ := id hI
    refine tv_iload_n dTC_stepsFrom_4 rfl rfl ?_
    refine tv_aload_n dTC_stepsFrom_5 rfl rfl ?_
    refine gTC_35 rfl dTC_stepsFrom_6 ?_
    refine tv_icmp_ge (tgt := 81) dTC_stepsFrom_9 (by decide) (fun c9 => ?_) (fun c9 => absurd (nI_le (by omega) (by omega)) c9)
    refine tv_iload_n dTC_stepsFrom_81 rfl rfl ?_
    exact tv_iret dTC_stepsFrom_82 rfl rfl (by rw [hr, tc_steps, show σ.2.2.2 1 = x by omega]) hh
  | succ n ih =>
    intro x hx hr hh
    obtain ⟨iP, iT, iN, iA, iR, iK, iO, iQ, iF, iB⟩ := id hI
    refine tv_iload_n dTC_stepsFrom_4 rfl rfl ?_
    refine tv_aload_n dTC_stepsFrom_5 rfl rfl ?_
    refine gTC_35 rfl dTC_stepsFrom_6 ?_
    refine tv_icmp_ge (tgt := 81) dTC_stepsFrom_9 (by decide) (fun c9 => absurd c9 (nI_ge (by omega) (by omega))) (fun c9 => ?_)
    refine tv_aload_n dTC_stepsFrom_12 rfl rfl ?_
    refine gTC_29 rfl dTC_stepsFrom_13 ?_
    refine tv_iload_n dTC_stepsFrom_16 rfl rfl ?_
    refine ldC_6 dTC_stepsFrom_17 ht ?_
    refine tv_aload_n dTC_stepsFrom_18 rfl rfl ?_
    refine gTC_17 rfl dTC_stepsFrom_19 ?_
    refine tv_iload_n dTC_stepsFrom_22 rfl rfl ?_
    refine ldC_2 dTC_stepsFrom_23 (by omega) ?_
    refine tv_callS2r kTC_93 (by decide) (Nat.le_of_ble_eq_true rfl) ⟨rfl, rfl⟩ (cc_hasBit _ _ (by have := iK x (by omega); omega)) ⟨Nat.zero_le _, Nat.zero_le _⟩ dTC_stepsFrom_24 ?_
    refine tv_ist_4 dTC_stepsFrom_27 (by decide) ?_
    refine tv_aload_n dTC_stepsFrom_29 rfl rfl ?_
    refine gTC_64 rfl dTC_stepsFrom_30 ?_
    refine tv_iload_n dTC_stepsFrom_33 rfl rfl ?_
    refine ldC_17 dTC_stepsFrom_34 (by omega) ?_
    refine tv_aload_n dTC_stepsFrom_35 rfl rfl ?_
    refine tv_iload_n dTC_stepsFrom_36 rfl rfl ?_
    refine tv_callV1r kTC_171 (by decide) (Nat.le_of_ble_eq_true rfl) ⟨rfl, rfl⟩ rfl (cc_unbuiltOn σ ht) ⟨Nat.zero_le _, Nat.zero_le _⟩ dTC_stepsFrom_37 ?_
    refine tv_iand dTC_stepsFrom_40 ?_
    refine tv_if_eq (tgt := 48) dTC_stepsFrom_41 (by decide) (fun c41 => ?_) (fun c41 => ?_)
    · have d41 : (σ.1 6 x &&& tc_unb σ t) = 0 := c41
      refine tv_iconst (v := 0) dTC_stepsFrom_48 (by decide) ?_
      refine tv_ist_5 dTC_stepsFrom_49 (by decide) ?_
      refine tv_iload dTC_stepsFrom_51 rfl ?_
      refine tv_if_eq (tgt := 75) dTC_stepsFrom_53 (by decide) (fun c53 => ?_) (fun c53 => ?_)
      · have e75 := tc_mk_no (f := (fun n => bt (σ.1 4 t) (σ.2.1 0 n) && (!decide (σ.1 6 n &&& tc_unb σ t = 0) && !decide (tc_unb σ n = 0)))) (n := x) (by simp [tc_b2_0.mp c53])
        have h9 := ih (x + 1) (by omega) hr hh
        refine tv_iinc_3 dTC_stepsFrom_75 (by decide) (nI_1 x) ?_
        refine tv_goto (tgt := 4) dTC_stepsFrom_78 (by decide) ?_
        refine tv_fg_4 ?_
        refine tv_fg_5 ?_
        rw [e75] at h9
        exact h9
      · have d53 := tc_b2_n.mp c53
        refine tv_iload dTC_stepsFrom_56 rfl ?_
        refine tv_if_eq (tgt := 75) dTC_stepsFrom_58 (by decide) (fun c58 => ?_) (fun c58 => absurd rfl c58)
        have e75 := tc_mk_no (f := (fun n => bt (σ.1 4 t) (σ.2.1 0 n) && (!decide (σ.1 6 n &&& tc_unb σ t = 0) && !decide (tc_unb σ n = 0)))) (n := x) (by simp [d41])
        have h9 := ih (x + 1) (by omega) hr hh
        refine tv_iinc_3 dTC_stepsFrom_75 (by decide) (nI_1 x) ?_
        refine tv_goto (tgt := 4) dTC_stepsFrom_78 (by decide) ?_
        refine tv_fg_4 ?_
        refine tv_fg_5 ?_
        rw [e75] at h9
        exact h9
    · have d41 : ¬ (σ.1 6 x &&& tc_unb σ t) = 0 := c41
      refine tv_iconst (v := 1) dTC_stepsFrom_44 (by decide) ?_
      refine tv_goto (tgt := 49) dTC_stepsFrom_45 (by decide) ?_
      refine tv_ist_5 dTC_stepsFrom_49 (by decide) ?_
      refine tv_iload dTC_stepsFrom_51 rfl ?_
      refine tv_if_eq (tgt := 75) dTC_stepsFrom_53 (by decide) (fun c53 => ?_) (fun c53 => ?_)
      · have e75 := tc_mk_no (f := (fun n => bt (σ.1 4 t) (σ.2.1 0 n) && (!decide (σ.1 6 n &&& tc_unb σ t = 0) && !decide (tc_unb σ n = 0)))) (n := x) (by simp [tc_b2_0.mp c53])
        have h9 := ih (x + 1) (by omega) hr hh
        refine tv_iinc_3 dTC_stepsFrom_75 (by decide) (nI_1 x) ?_
        refine tv_goto (tgt := 4) dTC_stepsFrom_78 (by decide) ?_
        refine tv_fg_4 ?_
        refine tv_fg_5 ?_
        rw [e75] at h9
        exact h9
      · have d53 := tc_b2_n.mp c53
        refine tv_iload dTC_stepsFrom_56 rfl ?_
        refine tv_if_eq (tgt := 75) dTC_stepsFrom_58 (by decide) (fun c58 => absurd c58 (by decide)) (fun c58 => ?_)
        refine tv_aload_n dTC_stepsFrom_61 rfl rfl ?_
        refine tv_iload_n dTC_stepsFrom_62 rfl rfl ?_
        refine tv_callV1r kTC_171 (by decide) (Nat.le_of_ble_eq_true rfl) ⟨rfl, rfl⟩ rfl (cc_unbuiltOn σ (by omega)) ⟨Nat.zero_le _, Nat.zero_le _⟩ dTC_stepsFrom_63 ?_
        refine tv_if_eq (tgt := 75) dTC_stepsFrom_66 (by decide) (fun c66 => ?_) (fun c66 => ?_)
        · have e75 := tc_mk_no (f := (fun n => bt (σ.1 4 t) (σ.2.1 0 n) && (!decide (σ.1 6 n &&& tc_unb σ t = 0) && !decide (tc_unb σ n = 0)))) (n := x) (by simp [c66])
          have h9 := ih (x + 1) (by omega) hr hh
          refine tv_iinc_3 dTC_stepsFrom_75 (by decide) (nI_1 x) ?_
          refine tv_goto (tgt := 4) dTC_stepsFrom_78 (by decide) ?_
          refine tv_fg_4 ?_
          refine tv_fg_5 ?_
          rw [e75] at h9
          exact h9
        · have e75 := tc_mk_yes (f := (fun n => bt (σ.1 4 t) (σ.2.1 0 n) && (!decide (σ.1 6 n &&& tc_unb σ t = 0) && !decide (tc_unb σ n = 0)))) (n := x) (by simp [d53, d41, c66])
          have h9 := ih (x + 1) (by omega) hr hh
          refine tv_iload_n dTC_stepsFrom_69 rfl rfl ?_
          refine tv_iconst (v := 1) dTC_stepsFrom_70 (by decide) ?_
          refine tv_iload_n dTC_stepsFrom_71 rfl rfl ?_
          refine tv_ishl dTC_stepsFrom_72 ?_
          refine tv_ior dTC_stepsFrom_73 ?_
          refine tv_istN_2 dTC_stepsFrom_74 (by decide) ?_
          refine tv_iinc_3 dTC_stepsFrom_75 (by decide) (nI_1 x) ?_
          refine tv_goto (tgt := 4) dTC_stepsFrom_78 (by decide) ?_
          refine tv_fg_4 ?_
          refine tv_fg_5 ?_
          rw [e75] at h9
          exact h9
set_option maxHeartbeats 4000000 in
set_option maxRecDepth 100000 in
theorem cc_stepsFrom (σ : tcS) (hI : tc_I σ) {t : Nat} (ht : t < 24) : tc_M yTC_stepsFrom cTC_stepsFrom 6 (some .int) 1 [.inr (some 0), .inl (nI t)] (tc_hC σ, some (.inl (tc_steps σ t)), tc_hC σ, 0, 0) := by
  refine tc_met (by decide) (Nat.le_of_ble_eq_true rfl) (Nat.le_of_eq tc_hC_len) rfl ?_
  refine tv_iconst (v := 0) dTC_stepsFrom_0 (by decide) ?_
  refine tv_istN_2 dTC_stepsFrom_1 (by decide) ?_
  refine tv_iconst (v := 0) dTC_stepsFrom_2 (by decide) ?_
  refine tv_istN_3 dTC_stepsFrom_3 (by decide) ?_
  exact cl_stepsFrom_4 σ hI ht (σ.2.2.2 1) 0 (by omega) rfl rfl
theorem tc_l0_k (t : Nat) (σ : tcS) : (tc_l0 t σ).2 = σ.2 ∧ (tc_l0 t σ).1 11 = σ.1 11 := ⟨rfl, rfl⟩
theorem tc_l1_k (m t : Nat) (σ : tcS) : (tc_l1 m t σ).2 = σ.2 ∧ (tc_l1 m t σ).1 11 = σ.1 11 := by
  unfold tc_l1
  split <;> exact ⟨rfl, rfl⟩
theorem tc_l2_k (m : Nat) (σ : tcS) : (tc_l2 m σ).2 = σ.2 ∧ (tc_l2 m σ).1 11 = σ.1 11 := tc_up_k1 (tc_l1_k m) _ _ _
theorem tc_leads_k (σ : tcS) : (tc_leads σ).2 = σ.2 ∧ (tc_leads σ).1 11 = σ.1 11 := by
  have h1 := tc_up_k1 tc_l2_k (σ.2.2.2 1) 0 (tc_up tc_l0 (σ.2.2.2 1) 0 σ)
  have h2 := tc_up_k1 tc_l0_k (σ.2.2.2 1) 0 σ
  exact ⟨h1.1.trans h2.1, h1.2.trans h2.2⟩
set_option maxHeartbeats 4000000 in
set_option maxRecDepth 100000 in
theorem cl_settleLeads_2  {K : tcK} : ∀ (n : Nat) (t : Nat) (ρ : tcS), tc_I ρ → t + n = ρ.2.2.2 1 → tc_V (cTC_settleLeads, 3, yTC_settleLeads.cls, none, 2, yTC_settleLeads.name) K 0 0 (tc_hC (tc_up tc_l0 n t ρ)) 27 [some (.inr (some 0)), none, none] [] → tc_V (cTC_settleLeads, 3, yTC_settleLeads.cls, none, 2, yTC_settleLeads.name) K 0 0 (tc_hC ρ) 2 [some (.inr (some 0)), some (.inl (nI t)), none] [] := by
  intro n
  induction n with
  | zero =>
    intro t ρ hI ht hx
    obtain ⟨iP, iT, iN, iA, iR, iK, iO, iQ, iF, iB⟩ := id hI
    refine tv_iload_n dTC_settleLeads_2 rfl rfl ?_
    refine tv_aload_n dTC_settleLeads_3 rfl rfl ?_
    refine gTC_35 rfl dTC_settleLeads_4 ?_
    refine tv_icmp_ge (tgt := 27) dTC_settleLeads_7 (by decide) (fun c7 => ?_) (fun c7 => absurd (nI_le (by omega) (by omega)) c7)
    refine tv_fg_1 ?_
    exact hx
  | succ n ih =>
    intro t ρ hI ht hx
    obtain ⟨iP, iT, iN, iA, iR, iK, iO, iQ, iF, iB⟩ := id hI
    refine tv_iload_n dTC_settleLeads_2 rfl rfl ?_
    refine tv_aload_n dTC_settleLeads_3 rfl rfl ?_
    refine gTC_35 rfl dTC_settleLeads_4 ?_
    refine tv_icmp_ge (tgt := 27) dTC_settleLeads_7 (by decide) (fun c7 => absurd c7 (nI_ge (by omega) (by omega))) (fun c7 => ?_)
    refine tv_aload_n dTC_settleLeads_10 rfl rfl ?_
    refine gTC_73 rfl dTC_settleLeads_11 ?_
    refine tv_iload_n dTC_settleLeads_14 rfl rfl ?_
    refine tv_aload_n dTC_settleLeads_15 rfl rfl ?_
    refine tv_iload_n dTC_settleLeads_16 rfl rfl ?_
    refine tv_callV1r kTC_168 (by decide) (Nat.le_of_ble_eq_true rfl) ⟨rfl, rfl⟩ rfl (cc_stepsFrom ρ hI (by omega)) ⟨Nat.zero_le _, Nat.zero_le _⟩ dTC_settleLeads_17 ?_
    refine stC_20 dTC_settleLeads_20 (by omega) ?_
    refine tv_iinc_1 dTC_settleLeads_21 (by decide) (nI_1 t) ?_
    refine tv_goto (tgt := 2) dTC_settleLeads_24 (by decide) ?_
    exact ih (t + 1) (tc_l0 t ρ) (tc_I_of hI rfl rfl) (by show t + 1 + n = ρ.2.2.2 1; omega) hx
set_option maxHeartbeats 4000000 in
set_option maxRecDepth 100000 in
theorem cl_settleLeads_39 {m : Nat} {K : tcK} : ∀ (n : Nat) (t : Nat) (ρ : tcS), tc_I ρ → m < ρ.2.2.2 1 → t + n = ρ.2.2.2 1 → tc_V (cTC_settleLeads, 3, yTC_settleLeads.cls, none, 2, yTC_settleLeads.name) K 0 0 (tc_hC (tc_up (tc_l1 m) n t ρ)) 81 [some (.inr (some 0)), some (.inl (nI m)), none] [] → tc_V (cTC_settleLeads, 3, yTC_settleLeads.cls, none, 2, yTC_settleLeads.name) K 0 0 (tc_hC ρ) 39 [some (.inr (some 0)), some (.inl (nI m)), some (.inl (nI t))] [] := by
  intro n
  induction n with
  | zero =>
    intro t ρ hI hm ht hx
    obtain ⟨iP, iT, iN, iA, iR, iK, iO, iQ, iF, iB⟩ := id hI
    refine tv_iload_n dTC_settleLeads_39 rfl rfl ?_
    refine tv_aload_n dTC_settleLeads_40 rfl rfl ?_
    refine gTC_35 rfl dTC_settleLeads_41 ?_
    refine tv_icmp_ge (tgt := 81) dTC_settleLeads_44 (by decide) (fun c44 => ?_) (fun c44 => absurd (nI_le (by omega) (by omega)) c44)
    refine tv_fg_2 ?_
    exact hx
  | succ n ih =>
    intro t ρ hI hm ht hx
    obtain ⟨iP, iT, iN, iA, iR, iK, iO, iQ, iF, iB⟩ := id hI
    refine tv_iload_n dTC_settleLeads_39 rfl rfl ?_
    refine tv_aload_n dTC_settleLeads_40 rfl rfl ?_
    refine gTC_35 rfl dTC_settleLeads_41 ?_
    refine tv_icmp_ge (tgt := 81) dTC_settleLeads_44 (by decide) (fun c44 => absurd c44 (nI_ge (by omega) (by omega))) (fun c44 => ?_)
    refine tv_aload_n dTC_settleLeads_47 rfl rfl ?_
    refine gTC_73 rfl dTC_settleLeads_48 ?_
    refine tv_iload_n dTC_settleLeads_51 rfl rfl ?_
    refine ldC_20 dTC_settleLeads_52 (by omega) ?_
    refine tv_iload_n dTC_settleLeads_53 rfl rfl ?_
    refine tv_callS2r kTC_93 (by decide) (Nat.le_of_ble_eq_true rfl) ⟨rfl, rfl⟩ (cc_hasBit _ _ (by omega)) ⟨Nat.zero_le _, Nat.zero_le _⟩ dTC_settleLeads_54 ?_
    refine tv_if_eq (tgt := 75) dTC_settleLeads_57 (by decide) (fun c57 => ?_) (fun c57 => ?_)
    · have e57 : tc_l1 m t ρ = ρ := by unfold tc_l1; rw [if_neg (by rw [tc_b2_0.mp c57]; simp)]
      refine tv_iinc_2 dTC_settleLeads_75 (by decide) (nI_1 t) ?_
      refine tv_goto (tgt := 39) dTC_settleLeads_78 (by decide) ?_
      have h9 := ih (t + 1) (tc_l1 m t ρ) (tc_I_of hI (tc_l1_k m t ρ).1 (tc_l1_k m t ρ).2) (by rw [(tc_l1_k m t ρ).1]; exact hm) (by rw [(tc_l1_k m t ρ).1]; omega) hx
      rw [e57] at h9
      exact h9
    · have e57 : tc_l1 m t ρ = tc_s1 ρ 9 (upd (ρ.1 9) t (ρ.1 9 t ||| ρ.1 9 m)) := by unfold tc_l1; rw [if_pos (tc_b2_n.mp c57)]
      refine tv_aload_n dTC_settleLeads_60 rfl rfl ?_
      refine gTC_73 rfl dTC_settleLeads_61 ?_
      refine tv_iload_n dTC_settleLeads_64 rfl rfl ?_
      refine tv_dup2 dTC_settleLeads_65 ?_
      refine ldC_20 dTC_settleLeads_66 (by omega) ?_
      refine tv_aload_n dTC_settleLeads_67 rfl rfl ?_
      refine gTC_73 rfl dTC_settleLeads_68 ?_
      refine tv_iload_n dTC_settleLeads_71 rfl rfl ?_
      refine ldC_20 dTC_settleLeads_72 (by omega) ?_
      refine tv_ior dTC_settleLeads_73 ?_
      refine stC_20 dTC_settleLeads_74 (by omega) ?_
      refine tv_iinc_2 dTC_settleLeads_75 (by decide) (nI_1 t) ?_
      refine tv_goto (tgt := 39) dTC_settleLeads_78 (by decide) ?_
      have h9 := ih (t + 1) (tc_l1 m t ρ) (tc_I_of hI (tc_l1_k m t ρ).1 (tc_l1_k m t ρ).2) (by rw [(tc_l1_k m t ρ).1]; exact hm) (by rw [(tc_l1_k m t ρ).1]; omega) hx
      rw [e57] at h9
      exact h9
set_option maxHeartbeats 4000000 in
set_option maxRecDepth 100000 in
theorem cl_settleLeads_29  {K : tcK} : ∀ (n : Nat) (m : Nat) (ρ : tcS), tc_I ρ → m + n = ρ.2.2.2 1 → K.2.1 = none → K.2.2.1 = tc_hC (tc_up tc_l2 n m ρ) → tc_V (cTC_settleLeads, 3, yTC_settleLeads.cls, none, 2, yTC_settleLeads.name) K 0 0 (tc_hC ρ) 29 [some (.inr (some 0)), some (.inl (nI m)), none] [] := by
  intro n
  induction n with
  | zero =>
    intro m ρ hI hm hr hh
    obtain ⟨iP, iT, iN, iA, iR, iK, iO, iQ, iF, iB⟩ := id hI
    refine tv_iload_n dTC_settleLeads_29 rfl rfl ?_
    refine tv_aload_n dTC_settleLeads_30 rfl rfl ?_
    refine gTC_35 rfl dTC_settleLeads_31 ?_
    refine tv_icmp_ge (tgt := 87) dTC_settleLeads_34 (by decide) (fun c34 => ?_) (fun c34 => absurd (nI_le (by omega) (by omega)) c34)
    exact tv_vret dTC_settleLeads_87 rfl hr hh
  | succ n ih =>
    intro m ρ hI hm hr hh
    obtain ⟨iP, iT, iN, iA, iR, iK, iO, iQ, iF, iB⟩ := id hI
    refine tv_iload_n dTC_settleLeads_29 rfl rfl ?_
    refine tv_aload_n dTC_settleLeads_30 rfl rfl ?_
    refine gTC_35 rfl dTC_settleLeads_31 ?_
    refine tv_icmp_ge (tgt := 87) dTC_settleLeads_34 (by decide) (fun c34 => absurd c34 (nI_ge (by omega) (by omega))) (fun c34 => ?_)
    refine tv_iconst (v := 0) dTC_settleLeads_37 (by decide) ?_
    refine tv_istN_2 dTC_settleLeads_38 (by decide) ?_
    refine cl_settleLeads_39 (ρ.2.2.2 1) 0 ρ hI (by omega) (by omega) ?_
    refine tv_iinc_1 dTC_settleLeads_81 (by decide) (nI_1 m) ?_
    refine tv_goto (tgt := 29) dTC_settleLeads_84 (by decide) ?_
    exact ih (m + 1) (tc_l2 m ρ) (tc_I_of hI (tc_l2_k m ρ).1 (tc_l2_k m ρ).2) (by rw [(tc_l2_k m ρ).1]; omega) hr hh
set_option maxHeartbeats 4000000 in
set_option maxRecDepth 100000 in
theorem cc_settleLeads (σ : tcS) (hI : tc_I σ) : tc_M yTC_settleLeads cTC_settleLeads 3 (none) 2 [.inr (some 0)] (tc_hC σ, none, tc_hC (tc_leads σ), 0, 0) := by
  refine tc_met (by decide) (Nat.le_of_ble_eq_true rfl) (Nat.le_of_eq tc_hC_len) rfl ?_
  refine tv_iconst (v := 0) dTC_settleLeads_0 (by decide) ?_
  refine tv_istN_1 dTC_settleLeads_1 (by decide) ?_
  refine cl_settleLeads_2 (σ.2.2.2 1) 0 σ hI (by omega) ?_
  have hk := tc_up_k1 tc_l0_k (σ.2.2.2 1) 0 σ
  refine tv_iconst (v := 0) dTC_settleLeads_27 (by decide) ?_
  refine tv_istN_1 dTC_settleLeads_28 (by decide) ?_
  exact cl_settleLeads_29 (σ.2.2.2 1) 0 (tc_up tc_l0 (σ.2.2.2 1) 0 σ) (tc_I_of hI hk.1 hk.2) (by rw [hk.1]; omega) rfl rfl
end
section
set_option maxHeartbeats 4000000 in
set_option maxRecDepth 100000 in
theorem cl_lowestUnsupplied_2 (σ : tcS) {t h : Nat} (ht : t < 24) (hh0 : h < 32) {K : tcK} : ∀ (n : Nat) (k : Nat), k + n = 8 → K.2.1 = some (.inl (tc_oI (tc_ff (fun k => bt (σ.1 4 t) k && !bt (σ.1 8 k) h) n k))) → K.2.2.1 = tc_hC σ → tc_V (cTC_lowestUnsupplied, 4, yTC_lowestUnsupplied.cls, some .int, 1, yTC_lowestUnsupplied.name) K 0 0 (tc_hC σ) 2 [some (.inr (some 0)), some (.inl (nI t)), some (.inl (nI h)), some (.inl (nI k))] [] := by
  intro n
  induction n with
  | zero =>
    intro k hk hr hh
    refine tv_iload_n dTC_lowestUnsupplied_2 rfl rfl ?_
    refine tv_bipush (v := 8) dTC_lowestUnsupplied_3 (by decide) ?_
    refine tv_icmp_ge (tgt := 42) dTC_lowestUnsupplied_5 (by decide) (fun c5 => ?_) (fun c5 => absurd (nI_le (a := 8) (b := k) (by omega) (by omega)) c5)
    refine tv_iconst (v := -1) dTC_lowestUnsupplied_42 (by decide) ?_
    exact tv_iret dTC_lowestUnsupplied_43 rfl rfl hr hh
  | succ n ih =>
    intro k hk hr hh
    refine tv_iload_n dTC_lowestUnsupplied_2 rfl rfl ?_
    refine tv_bipush (v := 8) dTC_lowestUnsupplied_3 (by decide) ?_
    refine tv_icmp_ge (tgt := 42) dTC_lowestUnsupplied_5 (by decide) (fun c5 => absurd c5 (nI_ge (a := k) (b := 8) (by omega) (by omega))) (fun c5 => ?_)
    refine tv_aload_n dTC_lowestUnsupplied_8 rfl rfl ?_
    refine gTC_29 rfl dTC_lowestUnsupplied_9 ?_
    refine tv_iload_n dTC_lowestUnsupplied_12 rfl rfl ?_
    refine ldC_6 dTC_lowestUnsupplied_13 ht ?_
    refine tv_iload_n dTC_lowestUnsupplied_14 rfl rfl ?_
    refine tv_callS2r kTC_93 (by decide) (Nat.le_of_ble_eq_true rfl) ⟨rfl, rfl⟩ (cc_hasBit _ _ (by omega)) ⟨Nat.zero_le _, Nat.zero_le _⟩ dTC_lowestUnsupplied_15 ?_
    refine tv_if_eq (tgt := 36) dTC_lowestUnsupplied_18 (by decide) (fun c18 => ?_) (fun c18 => ?_)
    · have e36 : (fun k => bt (σ.1 4 t) k && !bt (σ.1 8 k) h) k = false := by simp [tc_b2_0.mp c18]
      refine tv_iinc_3 dTC_lowestUnsupplied_36 (by decide) (nI_1 k) ?_
      refine tv_goto (tgt := 2) dTC_lowestUnsupplied_39 (by decide) ?_
      exact ih (k + 1) (by omega) (by rw [hr, tc_ff_no e36]) hh
    · have d18 := tc_b2_n.mp c18
      refine tv_aload_n dTC_lowestUnsupplied_21 rfl rfl ?_
      refine gTC_70 rfl dTC_lowestUnsupplied_22 ?_
      refine tv_iload_n dTC_lowestUnsupplied_25 rfl rfl ?_
      refine ldC_19 dTC_lowestUnsupplied_26 (by omega) ?_
      refine tv_iload_n dTC_lowestUnsupplied_27 rfl rfl ?_
      refine tv_callS2r kTC_93 (by decide) (Nat.le_of_ble_eq_true rfl) ⟨rfl, rfl⟩ (cc_hasBit _ _ hh0) ⟨Nat.zero_le _, Nat.zero_le _⟩ dTC_lowestUnsupplied_28 ?_
      refine tv_if_ne (tgt := 36) dTC_lowestUnsupplied_31 (by decide) (fun c31 => ?_) (fun c31 => ?_)
      · have e36 : (fun k => bt (σ.1 4 t) k && !bt (σ.1 8 k) h) k = false := by simp [tc_b2_n.mp c31]
        refine tv_iinc_3 dTC_lowestUnsupplied_36 (by decide) (nI_1 k) ?_
        refine tv_goto (tgt := 2) dTC_lowestUnsupplied_39 (by decide) ?_
        exact ih (k + 1) (by omega) (by rw [hr, tc_ff_no e36]) hh
      · have e36 : (fun k => bt (σ.1 4 t) k && !bt (σ.1 8 k) h) k = true := by simp [d18, tc_b2_0.mp c31]
        refine tv_iload_n dTC_lowestUnsupplied_34 rfl rfl ?_
        exact tv_iret dTC_lowestUnsupplied_35 rfl rfl (by rw [hr, tc_ff_yes e36]; rfl) hh
set_option maxHeartbeats 4000000 in
set_option maxRecDepth 100000 in
theorem cc_lowestUnsupplied (σ : tcS) {t h : Nat} (ht : t < 24) (hh0 : h < 32) : tc_M yTC_lowestUnsupplied cTC_lowestUnsupplied 4 (some .int) 1 [.inr (some 0), .inl (nI t), .inl (nI h)] (tc_hC σ, some (.inl (tc_oI (tc_ff (fun k => bt (σ.1 4 t) k && !bt (σ.1 8 k) h) 8 0))), tc_hC σ, 0, 0) := by
  refine tc_met (by decide) (Nat.le_of_ble_eq_true rfl) (Nat.le_of_eq tc_hC_len) rfl ?_
  refine tv_iconst (v := 0) dTC_lowestUnsupplied_0 (by decide) ?_
  refine tv_istN_3 dTC_lowestUnsupplied_1 (by decide) ?_
  exact cl_lowestUnsupplied_2 σ ht hh0 8 0 rfl rfl rfl
set_option maxHeartbeats 4000000 in
set_option maxRecDepth 100000 in
theorem cc_whyNot (σ : tcS) (hI : tc_I σ) {t h g : Nat} (ht : t < σ.2.2.2 1) (hh0 : h < σ.2.2.2 0) (hg0 : g < σ.2.2.2 0) : tc_M yTC_whyNot cTC_whyNot 5 (some .int) 1 [.inr (some 0), .inl (nI t), .inl (nI h), .inl (nI g)] (tc_hC σ, some (.inl (nI (tc_why σ t h g))), tc_hC σ, 0, 0) := by
  obtain ⟨iP, iT, iN, iA, iR, iK, iO, iQ, iF, iB⟩ := id hI
  have hk := iK t ht
  refine tc_met (by decide) (Nat.le_of_ble_eq_true rfl) (Nat.le_of_eq tc_hC_len) rfl ?_
  refine tv_aload_n dTC_whyNot_0 rfl rfl ?_
  refine gTC_17 rfl dTC_whyNot_1 ?_
  refine tv_iload_n dTC_whyNot_4 rfl rfl ?_
  refine ldC_2 dTC_whyNot_5 (by omega) ?_
  refine tv_ist_4 dTC_whyNot_6 (by decide) ?_
  refine tv_aload_n dTC_whyNot_8 rfl rfl ?_
  refine gTC_48 rfl dTC_whyNot_9 ?_
  refine tv_iload dTC_whyNot_12 rfl ?_
  refine ldC_12 dTC_whyNot_14 hk ?_
  refine tv_iconst (v := -1) dTC_whyNot_15 (by decide) ?_
  refine tv_icmp_eq (tgt := 32) dTC_whyNot_16 (by decide) (fun c16 => ?_) (fun c16 => ?_)
  · have d32 : ¬ (¬ σ.2.2.1 0 (σ.2.1 0 t) = none ∧ ¬ σ.2.2.1 0 (σ.2.1 0 t) = some t) := fun q => q.1 ((tc_oI_m1 (o := σ.2.2.1 0 (σ.2.1 0 t)) (fun a q => by have := iF _ _ q; omega)).mp c16)
    refine tv_aload_n dTC_whyNot_32 rfl rfl ?_
    refine gTC_26 rfl dTC_whyNot_33 ?_
    refine tv_iload_n dTC_whyNot_36 rfl rfl ?_
    refine ldC_5 dTC_whyNot_37 (by omega) ?_
    refine tv_aload_n dTC_whyNot_38 rfl rfl ?_
    refine gTC_44 rfl dTC_whyNot_39 ?_
    refine tv_iload dTC_whyNot_42 rfl ?_
    refine tv_callN1r kTC_149 (by decide) (Nat.le_of_ble_eq_true rfl) ⟨rfl, rfl⟩ rfl (cc_ak_leastVersion σ hk) ⟨Nat.zero_le _, Nat.zero_le _⟩ dTC_whyNot_44 ?_
    refine tv_icmp_ge (tgt := 52) dTC_whyNot_47 (by decide) (fun c47 => ?_) (fun c47 => ?_)
    · have d47 : ¬ σ.1 3 t < σ.1 10 (σ.2.1 0 t) := fun q => by rw [Int32.lt_iff_toInt_lt] at q; rw [Int32.le_iff_toInt_le] at c47; omega
      refine tv_aload_n dTC_whyNot_52 rfl rfl ?_
      refine gTC_61 rfl dTC_whyNot_53 ?_
      refine tv_iload_n dTC_whyNot_56 rfl rfl ?_
      refine ldC_16 dTC_whyNot_57 (by omega) ?_
      refine tv_iload_n dTC_whyNot_58 rfl rfl ?_
      refine tv_callS2r kTC_93 (by decide) (Nat.le_of_ble_eq_true rfl) ⟨rfl, rfl⟩ (cc_hasBit _ _ (by omega)) ⟨Nat.zero_le _, Nat.zero_le _⟩ dTC_whyNot_59 ?_
      refine tv_if_ne (tgt := 67) dTC_whyNot_62 (by decide) (fun c62 => ?_) (fun c62 => ?_)
      · have d62 := tc_b2_n.mp c62
        refine tv_aload_n dTC_whyNot_67 rfl rfl ?_
        refine gTC_64 rfl dTC_whyNot_68 ?_
        refine tv_iload_n dTC_whyNot_71 rfl rfl ?_
        refine ldC_17 dTC_whyNot_72 (by omega) ?_
        refine tv_iload_n dTC_whyNot_73 rfl rfl ?_
        refine tv_callS2r kTC_93 (by decide) (Nat.le_of_ble_eq_true rfl) ⟨rfl, rfl⟩ (cc_hasBit _ _ (by omega)) ⟨Nat.zero_le _, Nat.zero_le _⟩ dTC_whyNot_74 ?_
        refine tv_if_ne (tgt := 82) dTC_whyNot_77 (by decide) (fun c77 => ?_) (fun c77 => ?_)
        · have d77 := tc_b2_n.mp c77
          refine tv_aload_n dTC_whyNot_82 rfl rfl ?_
          refine gTC_67 rfl dTC_whyNot_83 ?_
          refine tv_iload_n dTC_whyNot_86 rfl rfl ?_
          refine ldC_18 dTC_whyNot_87 (by omega) ?_
          refine tv_iload_n dTC_whyNot_88 rfl rfl ?_
          refine tv_callS2r kTC_93 (by decide) (Nat.le_of_ble_eq_true rfl) ⟨rfl, rfl⟩ (cc_hasBit _ _ (by omega)) ⟨Nat.zero_le _, Nat.zero_le _⟩ dTC_whyNot_89 ?_
          refine tv_if_eq (tgt := 99) dTC_whyNot_92 (by decide) (fun c92 => ?_) (fun c92 => ?_)
          · have hr : (some (Sum.inl (nI (tc_why σ t h g))) : Option tcV) = some (Sum.inl 5) := by
              unfold tc_why
              rw [if_neg d32, if_neg d47, if_neg (by rw [d62]; simp), if_neg (by rw [d77]; simp), if_neg (by rw [tc_b2_0.mp c92]; simp)]
              rfl
            refine tv_iconst (v := 5) dTC_whyNot_99 (by decide) ?_
            exact tv_iret dTC_whyNot_100 rfl rfl hr rfl
          · have hr : (some (Sum.inl (nI (tc_why σ t h g))) : Option tcV) = some (Sum.inl 0) := by
              unfold tc_why
              rw [if_neg d32, if_neg d47, if_neg (by rw [d62]; simp), if_neg (by rw [d77]; simp), if_pos (tc_b2_n.mp c92)]
              rfl
            refine tv_iconst (v := 0) dTC_whyNot_95 (by decide) ?_
            refine tv_goto (tgt := 100) dTC_whyNot_96 (by decide) ?_
            exact tv_iret dTC_whyNot_100 rfl rfl hr rfl
        · have hr : (some (Sum.inl (nI (tc_why σ t h g))) : Option tcV) = some (Sum.inl 4) := by
            unfold tc_why
            rw [if_neg d32, if_neg d47, if_neg (by rw [d62]; simp), if_pos (tc_b2_0.mp c77)]
            rfl
          refine tv_iconst (v := 4) dTC_whyNot_80 (by decide) ?_
          exact tv_iret dTC_whyNot_81 rfl rfl hr rfl
      · have hr : (some (Sum.inl (nI (tc_why σ t h g))) : Option tcV) = some (Sum.inl 3) := by
          unfold tc_why
          rw [if_neg d32, if_neg d47, if_pos (tc_b2_0.mp c62)]
          rfl
        refine tv_iconst (v := 3) dTC_whyNot_65 (by decide) ?_
        exact tv_iret dTC_whyNot_66 rfl rfl hr rfl
    · have d47 : σ.1 3 t < σ.1 10 (σ.2.1 0 t) := by rw [Int32.lt_iff_toInt_lt]; rw [Int32.le_iff_toInt_le] at c47; omega
      have hr : (some (Sum.inl (nI (tc_why σ t h g))) : Option tcV) = some (Sum.inl 2) := by
        unfold tc_why
        rw [if_neg d32, if_pos d47]
        rfl
      refine tv_iconst (v := 2) dTC_whyNot_50 (by decide) ?_
      exact tv_iret dTC_whyNot_51 rfl rfl hr rfl
  · have d16 : ¬ σ.2.2.1 0 (σ.2.1 0 t) = none := fun q => c16 ((tc_oI_m1 (o := σ.2.2.1 0 (σ.2.1 0 t)) (fun a q => by have := iF _ _ q; omega)).mpr q)
    refine tv_aload_n dTC_whyNot_19 rfl rfl ?_
    refine gTC_48 rfl dTC_whyNot_20 ?_
    refine tv_iload dTC_whyNot_23 rfl ?_
    refine ldC_12 dTC_whyNot_25 hk ?_
    refine tv_iload_n dTC_whyNot_26 rfl rfl ?_
    refine tv_icmp_eq (tgt := 32) dTC_whyNot_27 (by decide) (fun c27 => ?_) (fun c27 => ?_)
    · have d32 : ¬ (¬ σ.2.2.1 0 (σ.2.1 0 t) = none ∧ ¬ σ.2.2.1 0 (σ.2.1 0 t) = some t) := fun q => q.2 ((tc_oI_some (o := σ.2.2.1 0 (σ.2.1 0 t)) (fun a q => by have := iF _ _ q; omega) (by omega)).mp c27)
      refine tv_aload_n dTC_whyNot_32 rfl rfl ?_
      refine gTC_26 rfl dTC_whyNot_33 ?_
      refine tv_iload_n dTC_whyNot_36 rfl rfl ?_
      refine ldC_5 dTC_whyNot_37 (by omega) ?_
      refine tv_aload_n dTC_whyNot_38 rfl rfl ?_
      refine gTC_44 rfl dTC_whyNot_39 ?_
      refine tv_iload dTC_whyNot_42 rfl ?_
      refine tv_callN1r kTC_149 (by decide) (Nat.le_of_ble_eq_true rfl) ⟨rfl, rfl⟩ rfl (cc_ak_leastVersion σ hk) ⟨Nat.zero_le _, Nat.zero_le _⟩ dTC_whyNot_44 ?_
      refine tv_icmp_ge (tgt := 52) dTC_whyNot_47 (by decide) (fun c47 => ?_) (fun c47 => ?_)
      · have d47 : ¬ σ.1 3 t < σ.1 10 (σ.2.1 0 t) := fun q => by rw [Int32.lt_iff_toInt_lt] at q; rw [Int32.le_iff_toInt_le] at c47; omega
        refine tv_aload_n dTC_whyNot_52 rfl rfl ?_
        refine gTC_61 rfl dTC_whyNot_53 ?_
        refine tv_iload_n dTC_whyNot_56 rfl rfl ?_
        refine ldC_16 dTC_whyNot_57 (by omega) ?_
        refine tv_iload_n dTC_whyNot_58 rfl rfl ?_
        refine tv_callS2r kTC_93 (by decide) (Nat.le_of_ble_eq_true rfl) ⟨rfl, rfl⟩ (cc_hasBit _ _ (by omega)) ⟨Nat.zero_le _, Nat.zero_le _⟩ dTC_whyNot_59 ?_
        refine tv_if_ne (tgt := 67) dTC_whyNot_62 (by decide) (fun c62 => ?_) (fun c62 => ?_)
        · have d62 := tc_b2_n.mp c62
          refine tv_aload_n dTC_whyNot_67 rfl rfl ?_
          refine gTC_64 rfl dTC_whyNot_68 ?_
          refine tv_iload_n dTC_whyNot_71 rfl rfl ?_
          refine ldC_17 dTC_whyNot_72 (by omega) ?_
          refine tv_iload_n dTC_whyNot_73 rfl rfl ?_
          refine tv_callS2r kTC_93 (by decide) (Nat.le_of_ble_eq_true rfl) ⟨rfl, rfl⟩ (cc_hasBit _ _ (by omega)) ⟨Nat.zero_le _, Nat.zero_le _⟩ dTC_whyNot_74 ?_
          refine tv_if_ne (tgt := 82) dTC_whyNot_77 (by decide) (fun c77 => ?_) (fun c77 => ?_)
          · have d77 := tc_b2_n.mp c77
            refine tv_aload_n dTC_whyNot_82 rfl rfl ?_
            refine gTC_67 rfl dTC_whyNot_83 ?_
            refine tv_iload_n dTC_whyNot_86 rfl rfl ?_
            refine ldC_18 dTC_whyNot_87 (by omega) ?_
            refine tv_iload_n dTC_whyNot_88 rfl rfl ?_
            refine tv_callS2r kTC_93 (by decide) (Nat.le_of_ble_eq_true rfl) ⟨rfl, rfl⟩ (cc_hasBit _ _ (by omega)) ⟨Nat.zero_le _, Nat.zero_le _⟩ dTC_whyNot_89 ?_
            refine tv_if_eq (tgt := 99) dTC_whyNot_92 (by decide) (fun c92 => ?_) (fun c92 => ?_)
            · have hr : (some (Sum.inl (nI (tc_why σ t h g))) : Option tcV) = some (Sum.inl 5) := by
                unfold tc_why
                rw [if_neg d32, if_neg d47, if_neg (by rw [d62]; simp), if_neg (by rw [d77]; simp), if_neg (by rw [tc_b2_0.mp c92]; simp)]
                rfl
              refine tv_iconst (v := 5) dTC_whyNot_99 (by decide) ?_
              exact tv_iret dTC_whyNot_100 rfl rfl hr rfl
            · have hr : (some (Sum.inl (nI (tc_why σ t h g))) : Option tcV) = some (Sum.inl 0) := by
                unfold tc_why
                rw [if_neg d32, if_neg d47, if_neg (by rw [d62]; simp), if_neg (by rw [d77]; simp), if_pos (tc_b2_n.mp c92)]
                rfl
              refine tv_iconst (v := 0) dTC_whyNot_95 (by decide) ?_
              refine tv_goto (tgt := 100) dTC_whyNot_96 (by decide) ?_
              exact tv_iret dTC_whyNot_100 rfl rfl hr rfl
          · have hr : (some (Sum.inl (nI (tc_why σ t h g))) : Option tcV) = some (Sum.inl 4) := by
              unfold tc_why
              rw [if_neg d32, if_neg d47, if_neg (by rw [d62]; simp), if_pos (tc_b2_0.mp c77)]
              rfl
            refine tv_iconst (v := 4) dTC_whyNot_80 (by decide) ?_
            exact tv_iret dTC_whyNot_81 rfl rfl hr rfl
        · have hr : (some (Sum.inl (nI (tc_why σ t h g))) : Option tcV) = some (Sum.inl 3) := by
            unfold tc_why
            rw [if_neg d32, if_neg d47, if_pos (tc_b2_0.mp c62)]
            rfl
          refine tv_iconst (v := 3) dTC_whyNot_65 (by decide) ?_
          exact tv_iret dTC_whyNot_66 rfl rfl hr rfl
      · have d47 : σ.1 3 t < σ.1 10 (σ.2.1 0 t) := by rw [Int32.lt_iff_toInt_lt]; rw [Int32.le_iff_toInt_le] at c47; omega
        have hr : (some (Sum.inl (nI (tc_why σ t h g))) : Option tcV) = some (Sum.inl 2) := by
          unfold tc_why
          rw [if_neg d32, if_pos d47]
          rfl
        refine tv_iconst (v := 2) dTC_whyNot_50 (by decide) ?_
        exact tv_iret dTC_whyNot_51 rfl rfl hr rfl
    · have d27 : ¬ σ.2.2.1 0 (σ.2.1 0 t) = some t := fun q => c27 ((tc_oI_some (o := σ.2.2.1 0 (σ.2.1 0 t)) (fun a q => by have := iF _ _ q; omega) (by omega)).mpr q)
      have hr : (some (Sum.inl (nI (tc_why σ t h g))) : Option tcV) = some (Sum.inl 1) := by
        unfold tc_why
        rw [if_pos ⟨d16, d27⟩]
        rfl
      refine tv_iconst (v := 1) dTC_whyNot_30 (by decide) ?_
      exact tv_iret dTC_whyNot_31 rfl rfl hr rfl
set_option maxHeartbeats 4000000 in
set_option maxRecDepth 100000 in
theorem cc_lackOf (w : Nat) (hw : w < 6) (σ : tcS) (hI : tc_I σ) {t h g : Nat} (ht : t < σ.2.2.2 1) (hh0 : h < σ.2.2.2 0) (hg0 : g < σ.2.2.2 0) : tc_M yTC_lackOf cTC_lackOf 5 (some .int) 2 [.inr (some 0), .inl (nI w), .inl (nI t), .inl (nI h), .inl (nI g)] (tc_hC σ, some (.inl (tc_oI (tc_lack σ w t h g))), tc_hC σ, 0, 0) := by
  obtain ⟨iP, iT, iN, iA, iR, iK, iO, iQ, iF, iB⟩ := id hI
  rcases (show w = 0 ∨ w = 1 ∨ w = 2 ∨ w = 3 ∨ w = 4 ∨ w = 5 by omega) with rfl | rfl | rfl | rfl | rfl | rfl
  · refine tc_met (by decide) (Nat.le_of_ble_eq_true rfl) (Nat.le_refl _) rfl ?_
    refine tv_iload_n dTC_lackOf_0 rfl rfl ?_
    refine tv_tabOut (tgt := 74) dTC_lackOf_1 (by decide) (by decide) ?_
    refine tv_iconst (v := -1) dTC_lackOf_74 (by decide) ?_
    exact tv_iret dTC_lackOf_75 rfl rfl rfl rfl
  · refine tc_met (by decide) (Nat.le_of_ble_eq_true rfl) (Nat.le_refl _) rfl ?_
    refine tv_iload_n dTC_lackOf_0 rfl rfl ?_
    refine tv_tabOut (tgt := 74) dTC_lackOf_1 (by decide) (by decide) ?_
    refine tv_iconst (v := -1) dTC_lackOf_74 (by decide) ?_
    exact tv_iret dTC_lackOf_75 rfl rfl rfl rfl
  · refine tc_met (by decide) (Nat.le_of_ble_eq_true rfl) (Nat.le_refl _) rfl ?_
    refine tv_iload_n dTC_lackOf_0 rfl rfl ?_
    refine tv_tabOut (tgt := 74) dTC_lackOf_1 (by decide) (by decide) ?_
    refine tv_iconst (v := -1) dTC_lackOf_74 (by decide) ?_
    exact tv_iret dTC_lackOf_75 rfl rfl rfl rfl
  · refine tc_met (by decide) (Nat.le_of_ble_eq_true rfl) (Nat.le_refl _) rfl ?_
    refine tv_iload_n dTC_lackOf_0 rfl rfl ?_
    refine tv_tabIn (tgt := 28) dTC_lackOf_1 (by decide) (by decide) rfl (by decide) ?_
    refine tv_aload_n dTC_lackOf_28 rfl rfl ?_
    refine gTC_20 rfl dTC_lackOf_29 ?_
    refine tv_iload_n dTC_lackOf_32 rfl rfl ?_
    refine ldC_3 dTC_lackOf_33 (by omega) ?_
    refine tv_aload_n dTC_lackOf_34 rfl rfl ?_
    refine gTC_9 rfl dTC_lackOf_35 ?_
    refine tv_iload_n dTC_lackOf_38 rfl rfl ?_
    refine ldC_1 dTC_lackOf_39 (by omega) ?_
    refine tv_iconst (v := -1) dTC_lackOf_40 (by decide) ?_
    refine tv_ixor dTC_lackOf_41 ?_
    refine tv_iand dTC_lackOf_42 ?_
    refine tv_callS1r kTC_152 (by decide) (Nat.le_of_ble_eq_true rfl) ⟨rfl, rfl⟩ (cc_lowestBit _ _) ⟨Nat.zero_le _, Nat.zero_le _⟩ dTC_lackOf_43 ?_
    exact tv_iret dTC_lackOf_46 rfl rfl rfl rfl
  · refine tc_met (by decide) (Nat.le_of_ble_eq_true rfl) (Nat.le_refl _) rfl ?_
    refine tv_iload_n dTC_lackOf_0 rfl rfl ?_
    refine tv_tabIn (tgt := 47) dTC_lackOf_1 (by decide) (by decide) rfl (by decide) ?_
    refine tv_aload_n dTC_lackOf_47 rfl rfl ?_
    refine gTC_23 rfl dTC_lackOf_48 ?_
    refine tv_iload_n dTC_lackOf_51 rfl rfl ?_
    refine ldC_4 dTC_lackOf_52 (by omega) ?_
    refine tv_aload_n dTC_lackOf_53 rfl rfl ?_
    refine gTC_9 rfl dTC_lackOf_54 ?_
    refine tv_iload dTC_lackOf_57 rfl ?_
    refine ldC_1 dTC_lackOf_59 (by omega) ?_
    refine tv_iconst (v := -1) dTC_lackOf_60 (by decide) ?_
    refine tv_ixor dTC_lackOf_61 ?_
    refine tv_iand dTC_lackOf_62 ?_
    refine tv_callS1r kTC_152 (by decide) (Nat.le_of_ble_eq_true rfl) ⟨rfl, rfl⟩ (cc_lowestBit _ _) ⟨Nat.zero_le _, Nat.zero_le _⟩ dTC_lackOf_63 ?_
    exact tv_iret dTC_lackOf_66 rfl rfl rfl rfl
  · refine tc_met (by decide) (Nat.le_of_ble_eq_true rfl) (Nat.le_refl _) rfl ?_
    refine tv_iload_n dTC_lackOf_0 rfl rfl ?_
    refine tv_tabIn (tgt := 67) dTC_lackOf_1 (by decide) (by decide) rfl (by decide) ?_
    refine tv_aload_n dTC_lackOf_67 rfl rfl ?_
    refine tv_iload_n dTC_lackOf_68 rfl rfl ?_
    refine tv_iload_n dTC_lackOf_69 rfl rfl ?_
    refine tv_callV2r kTC_155 (by decide) (Nat.le_of_ble_eq_true rfl) ⟨rfl, rfl⟩ rfl (cc_lowestUnsupplied σ (by omega) (by omega)) ⟨Nat.zero_le _, Nat.zero_le _⟩ dTC_lackOf_70 ?_
    exact tv_iret dTC_lackOf_73 rfl rfl rfl rfl
theorem tc_why_lt (σ : tcS) (t h g : Nat) : tc_why σ t h g < 6 := by
  unfold tc_why
  repeat' split
  all_goals omega
theorem tc_add_I {σ : tcS} (hI : tc_I σ) (h t w : Nat) (k : Option Nat) : tc_I (tc_add σ h t w k) := by
  obtain ⟨iP, iT, iN, iA, iR, iK, iO, iQ, iF, iB⟩ := hI
  unfold tc_add
  split
  · exact ⟨iP, iT, iN, iA, iR, iK, iO, iQ, iF, iB⟩
  · rename_i hn
    exact ⟨iP, iT, iN, iA, by show σ.2.2.2 4 + 1 ≤ 144; omega, iK, iO, iQ, iF, iB⟩
/-- what firstGood and the rows leave as it was -/
def tc_same (σ τ : tcS) : Prop := τ.2.1 = σ.2.1 ∧ τ.2.2.1 = σ.2.2.1 ∧ τ.2.2.2 0 = σ.2.2.2 0 ∧ τ.2.2.2 1 = σ.2.2.2 1 ∧ τ.2.2.2 2 = σ.2.2.2 2 ∧ τ.2.2.2 3 = σ.2.2.2 3 ∧ ∀ k, k ≠ 12 → τ.1 k = σ.1 k
theorem tc_same.rf {σ : tcS} : tc_same σ σ := ⟨rfl, rfl, rfl, rfl, rfl, rfl, fun _ _ => rfl⟩
theorem tc_same.tr {σ τ ρ : tcS} (h : tc_same σ τ) (k : tc_same τ ρ) : tc_same σ ρ := ⟨k.1.trans h.1, k.2.1.trans h.2.1, k.2.2.1.trans h.2.2.1, k.2.2.2.1.trans h.2.2.2.1, k.2.2.2.2.1.trans h.2.2.2.2.1, k.2.2.2.2.2.1.trans h.2.2.2.2.2.1, fun j hj => (k.2.2.2.2.2.2 j hj).trans (h.2.2.2.2.2.2 j hj)⟩
theorem tc_add_same (σ : tcS) (h t w : Nat) (k : Option Nat) : tc_same σ (tc_add σ h t w k) := by
  unfold tc_add
  split
  · exact tc_same.rf
  · refine ⟨rfl, rfl, rfl, rfl, rfl, rfl, fun j hj => ?_⟩
    simp [tc_s4, tc_w1, tc_s1, va_up, hj]
theorem tc_fg_I {k h g : Nat} : ∀ (n i : Nat) {σ : tcS}, tc_I σ → tc_I (tc_fg k h g n i σ).2
  | 0, _, _, hI => hI
  | n + 1, i, σ, hI => by
    unfold tc_fg
    split
    · split
      · exact tc_add_I hI _ _ _ _
      · exact tc_fg_I n (i + 1) (tc_add_I hI _ _ _ _)
    · exact tc_fg_I n (i + 1) hI
theorem tc_fg_same {k h g : Nat} : ∀ (n i : Nat) (σ : tcS), tc_same σ (tc_fg k h g n i σ).2
  | 0, _, _ => tc_same.rf
  | n + 1, i, σ => by
    unfold tc_fg
    split
    · split
      · exact tc_add_same _ _ _ _ _
      · exact (tc_add_same _ _ _ _ _).tr (tc_fg_same n (i + 1) _)
    · exact tc_fg_same n (i + 1) σ
theorem tc_fg_lt {k h g : Nat} : ∀ (n i : Nat) {σ : tcS} {t : Nat}, tc_I σ → i + n ≤ σ.2.2.2 1 → (tc_fg k h g n i σ).1 = some t → t < σ.2.2.2 1
  | 0, _, _, _, _, _, h => by simp [tc_fg] at h
  | n + 1, i, σ, t, hI, hn, h => by
    have hO := hI.2.2.2.2.2.2.1 i (by omega)
    unfold tc_fg at h
    split at h
    · split at h
      · simp at h
        omega
      · have := tc_fg_lt n (i + 1) (tc_add_I hI _ _ _ _) (by rw [(tc_add_same _ _ _ _ _).2.2.2.1]; omega) h
        rw [(tc_add_same _ _ _ _ _).2.2.2.1] at this
        exact this
    · exact tc_fg_lt n (i + 1) hI (by omega) h
set_option maxHeartbeats 4000000 in
set_option maxRecDepth 100000 in
theorem cl_firstGood_3 {k h g : Nat} (hk : k < 8) {K : tcK} : ∀ (n : Nat) (i : Nat) (ρ : tcS), tc_I ρ → h < ρ.2.2.2 0 → g < ρ.2.2.2 0 → i + n = ρ.2.2.2 1 → K.2.1 = some (.inl (tc_oI (tc_fg k h g n i ρ).1)) → K.2.2.1 = tc_hC (tc_fg k h g n i ρ).2 → tc_V (cTC_firstGood, 7, yTC_firstGood.cls, some .int, 3, yTC_firstGood.name) K 0 0 (tc_hC ρ) 3 [some (.inr (some 0)), some (.inl (nI k)), some (.inl (nI h)), some (.inl (nI g)), some (.inl (nI i)), none, none] [] := by
  intro n
  induction n with
  | zero =>
    intro i ρ hI hh0 hg0 hi hr hh
    obtain ⟨iP, iT, iN, iA, iR, iK, iO, iQ, iF, iB⟩ := id hI
    refine tv_iload dTC_firstGood_3 rfl ?_
    refine tv_aload_n dTC_firstGood_5 rfl rfl ?_
    refine gTC_35 rfl dTC_firstGood_6 ?_
    refine tv_icmp_ge (tgt := 78) dTC_firstGood_9 (by decide) (fun c9 => ?_) (fun c9 => absurd (nI_le (by omega) (by omega)) c9)
    refine tv_iconst (v := -1) dTC_firstGood_78 (by decide) ?_
    exact tv_iret dTC_firstGood_79 rfl rfl hr hh
  | succ n ih =>
    intro i ρ hI hh0 hg0 hi hr hh
    obtain ⟨iP, iT, iN, iA, iR, iK, iO, iQ, iF, iB⟩ := id hI
    have hO := iO i (by omega)
    refine tv_iload dTC_firstGood_3 rfl ?_
    refine tv_aload_n dTC_firstGood_5 rfl rfl ?_
    refine gTC_35 rfl dTC_firstGood_6 ?_
    refine tv_icmp_ge (tgt := 78) dTC_firstGood_9 (by decide) (fun c9 => absurd c9 (nI_ge (by omega) (by omega))) (fun c9 => ?_)
    refine tv_aload_n dTC_firstGood_12 rfl rfl ?_
    refine gTC_32 rfl dTC_firstGood_13 ?_
    refine tv_iload dTC_firstGood_16 rfl ?_
    refine ldC_7 dTC_firstGood_18 (by omega) ?_
    refine tv_ist_5 dTC_firstGood_19 (by decide) ?_
    refine tv_aload_n dTC_firstGood_21 rfl rfl ?_
    refine gTC_17 rfl dTC_firstGood_22 ?_
    refine tv_iload dTC_firstGood_25 rfl ?_
    refine ldC_2 dTC_firstGood_27 (by omega) ?_
    refine tv_iload_n dTC_firstGood_28 rfl rfl ?_
    refine tv_icmp_ne (tgt := 72) dTC_firstGood_29 (by decide) (fun c29 => ?_) (fun c29 => ?_)
    · have d29 : ¬ ρ.2.1 0 (ρ.2.1 1 i) = k := fun q => c29 (by rw [q])
      have e29 : tc_fg k h g (n + 1) i ρ = tc_fg k h g n (i + 1) ρ := by rw [tc_fg, if_neg d29]
      have h9 := ih (i + 1) ρ hI hh0 hg0 (by omega) (by rw [hr, e29]) (by rw [hh, e29])
      refine tv_iinc_4 dTC_firstGood_72 (by decide) (nI_1 i) ?_
      refine tv_goto (tgt := 3) dTC_firstGood_75 (by decide) ?_
      refine tv_fg_5 ?_
      refine tv_fg_6 ?_
      exact h9
    · have d29 : ρ.2.1 0 (ρ.2.1 1 i) = k := (nI_eq (by have := iK _ hO; omega) (by omega)).mp c29
      refine tv_aload_n dTC_firstGood_32 rfl rfl ?_
      refine tv_iload dTC_firstGood_33 rfl ?_
      refine tv_iload_n dTC_firstGood_35 rfl rfl ?_
      refine tv_iload_n dTC_firstGood_36 rfl rfl ?_
      refine tv_callV3r kTC_138 (by decide) (Nat.le_of_ble_eq_true rfl) ⟨rfl, rfl⟩ rfl (cc_whyNot ρ hI hO hh0 hg0) ⟨Nat.zero_le _, Nat.zero_le _⟩ dTC_firstGood_37 ?_
      refine tv_ist_6 dTC_firstGood_40 (by decide) ?_
      refine tv_aload_n dTC_firstGood_42 rfl rfl ?_
      refine gTC_57 rfl dTC_firstGood_43 ?_
      refine tv_iload_n dTC_firstGood_46 rfl rfl ?_
      refine tv_iload dTC_firstGood_47 rfl ?_
      refine tv_iload dTC_firstGood_49 rfl ?_
      refine tv_aload_n dTC_firstGood_51 rfl rfl ?_
      refine tv_iload dTC_firstGood_52 rfl ?_
      refine tv_iload dTC_firstGood_54 rfl ?_
      refine tv_iload_n dTC_firstGood_56 rfl rfl ?_
      refine tv_iload_n dTC_firstGood_57 rfl rfl ?_
      refine tv_callV4r kTC_141 (by decide) (Nat.le_of_ble_eq_true rfl) ⟨rfl, rfl⟩ rfl (cc_lackOf _ (tc_why_lt _ _ _ _) ρ hI hO hh0 hg0) ⟨Nat.zero_le _, Nat.zero_le _⟩ dTC_firstGood_58 ?_
      refine tv_callN4v kTC_145 (by decide) (Nat.le_of_ble_eq_true rfl) ⟨rfl, rfl⟩ rfl (cc_rl_add ρ hI _ _ _ _) ⟨Nat.zero_le _, Nat.zero_le _⟩ dTC_firstGood_61 ?_
      refine tv_iload dTC_firstGood_64 rfl ?_
      refine tv_if_ne (tgt := 72) dTC_firstGood_66 (by decide) (fun c66 => ?_) (fun c66 => ?_)
      · have d66 : ¬ tc_why ρ (ρ.2.1 1 i) h g = 0 := fun q => c66 (by rw [q]; rfl)
        have e29 : tc_fg k h g (n + 1) i ρ = tc_fg k h g n (i + 1) (tc_add ρ h (ρ.2.1 1 i) (tc_why ρ (ρ.2.1 1 i) h g) (tc_lack ρ (tc_why ρ (ρ.2.1 1 i) h g) (ρ.2.1 1 i) h g)) := by rw [tc_fg, if_pos d29, if_neg d66]
        have hs := tc_add_same ρ h (ρ.2.1 1 i) (tc_why ρ (ρ.2.1 1 i) h g) (tc_lack ρ (tc_why ρ (ρ.2.1 1 i) h g) (ρ.2.1 1 i) h g)
        have h9 := ih (i + 1) (tc_add ρ h (ρ.2.1 1 i) (tc_why ρ (ρ.2.1 1 i) h g) (tc_lack ρ (tc_why ρ (ρ.2.1 1 i) h g) (ρ.2.1 1 i) h g)) (tc_add_I hI _ _ _ _) (by rw [hs.2.2.1]; exact hh0) (by rw [hs.2.2.1]; exact hg0) (by rw [hs.2.2.2.1]; omega) (by rw [hr, e29]) (by rw [hh, e29])
        refine tv_iinc_4 dTC_firstGood_72 (by decide) (nI_1 i) ?_
        refine tv_goto (tgt := 3) dTC_firstGood_75 (by decide) ?_
        refine tv_fg_5 ?_
        refine tv_fg_6 ?_
        exact h9
      · have d66 : tc_why ρ (ρ.2.1 1 i) h g = 0 := (nI_eq (by have := tc_why_lt ρ (ρ.2.1 1 i) h g; omega) (by omega)).mp c66
        have e29 : tc_fg k h g (n + 1) i ρ = (some (ρ.2.1 1 i), tc_add ρ h (ρ.2.1 1 i) (tc_why ρ (ρ.2.1 1 i) h g) (tc_lack ρ (tc_why ρ (ρ.2.1 1 i) h g) (ρ.2.1 1 i) h g)) := by rw [tc_fg, if_pos d29, if_pos d66]
        refine tv_iload dTC_firstGood_69 rfl ?_
        exact tv_iret dTC_firstGood_71 rfl rfl (by rw [hr, e29]; rfl) (by rw [hh, e29])
set_option maxHeartbeats 4000000 in
set_option maxRecDepth 100000 in
theorem cc_firstGood (σ : tcS) (hI : tc_I σ) {k h g : Nat} (hk : k < 8) (hh0 : h < σ.2.2.2 0) (hg0 : g < σ.2.2.2 0) : tc_M yTC_firstGood cTC_firstGood 7 (some .int) 3 [.inr (some 0), .inl (nI k), .inl (nI h), .inl (nI g)] (tc_hC σ, some (.inl (tc_oI (tc_fg k h g (σ.2.2.2 1) 0 σ).1)), tc_hC (tc_fg k h g (σ.2.2.2 1) 0 σ).2, 0, 0) := by
  refine tc_met (by decide) (Nat.le_of_ble_eq_true rfl) (Nat.le_of_eq tc_hC_len) rfl ?_
  refine tv_iconst (v := 0) dTC_firstGood_0 (by decide) ?_
  refine tv_ist_4 dTC_firstGood_1 (by decide) ?_
  exact cl_firstGood_3 hk (σ.2.2.2 1) 0 σ hI hh0 hg0 (by omega) rfl rfl
theorem tc_ts_I {h g k : Nat} {σ : tcS} (hI : tc_I σ) : tc_I (tc_ts h g k σ) := tc_fg_I (k := k) (h := h) (g := g) (σ.2.2.2 1) 0 hI
theorem tc_ts_c {h g k : Nat} {σ : tcS} : (tc_ts h g k σ).2.2.2 0 = σ.2.2.2 0 ∧ (tc_ts h g k σ).2.2.2 3 = σ.2.2.2 3 := by
  have hs := tc_fg_same (k := k) (h := h) (g := g) (σ.2.2.2 1) 0 σ
  exact ⟨hs.2.2.1, hs.2.2.2.2.2.1⟩
theorem tc_tt_k {h g : Nat} : ∀ (n i : Nat) {σ : tcS}, tc_I σ → tc_I (tc_tt h g n i σ).2 ∧ (tc_tt h g n i σ).2.2.2.2 0 = σ.2.2.2 0
  | 0, _, _, hI => ⟨hI, rfl⟩
  | n + 1, i, σ, hI => by
    unfold tc_tt
    split
    · exact ⟨tc_ts_I hI, tc_ts_c.1⟩
    · have h1 := tc_tt_k (h := h) (g := g) n (i + 1) (tc_ts_I (h := h) (g := g) (k := σ.2.1 2 i) hI)
      exact ⟨h1.1, h1.2.trans tc_ts_c.1⟩
theorem tc_take_k {h g : Nat} {σ : tcS} (hI : tc_I σ) : tc_I (tc_take h g σ).2 ∧ (tc_take h g σ).2.2.2.2 0 = σ.2.2.2 0 := tc_tt_k (σ := tc_t0 σ) _ _ hI
theorem tc_hC_t0 {σ : tcS} : (tc_hC σ).set 13 (.inl (0, 8, .inl (tc_fill 8 (-1) (fun j => tc_oI (σ.2.2.1 1 j))))) = tc_hC (tc_t0 σ) := by
  have e : tc_fill 8 (-1) (fun j => tc_oI (σ.2.2.1 1 j)) = fun j => tc_oI (tc_fill 8 none (σ.2.2.1 1) j) := tc_fill_o (v := none)
  rw [e]
  rfl
set_option maxHeartbeats 4000000 in
set_option maxRecDepth 100000 in
theorem cl_takeTools_10 {h g : Nat} {K : tcK} : ∀ (n : Nat) (i : Nat) (ρ : tcS), tc_I ρ → h < ρ.2.2.2 0 → g < ρ.2.2.2 0 → i + n = ρ.2.2.2 3 → K.2.1 = some (.inl (tc_b2 (tc_tt h g n i ρ).1)) → K.2.2.1 = tc_hC (tc_tt h g n i ρ).2 → tc_V (cTC_takeTools, 5, yTC_takeTools.cls, some .boolean, 4, yTC_takeTools.name) K 0 0 (tc_hC ρ) 10 [some (.inr (some 0)), some (.inl (nI h)), some (.inl (nI g)), some (.inl (nI i)), none] [] := by
  intro n
  induction n with
  | zero =>
    intro i ρ hI hh0 hg0 hi hr hh
    obtain ⟨iP, iT, iN, iA, iR, iK, iO, iQ, iF, iB⟩ := id hI
    refine tv_iload_n dTC_takeTools_10 rfl rfl ?_
    refine tv_aload_n dTC_takeTools_11 rfl rfl ?_
    refine gTC_44 rfl dTC_takeTools_12 ?_
    refine tv_callN0r kTC_127 (by decide) (Nat.le_of_ble_eq_true rfl) ⟨rfl, rfl⟩ rfl (cc_ak_size ρ) ⟨Nat.zero_le _, Nat.zero_le _⟩ dTC_takeTools_15 ?_
    refine tv_icmp_ge (tgt := 77) dTC_takeTools_18 (by decide) (fun c18 => ?_) (fun c18 => absurd (nI_le (by omega) (by omega)) c18)
    refine tv_iconst (v := 1) dTC_takeTools_77 (by decide) ?_
    exact tv_iret dTC_takeTools_78 rfl rfl hr hh
  | succ n ih =>
    intro i ρ hI hh0 hg0 hi hr hh
    obtain ⟨iP, iT, iN, iA, iR, iK, iO, iQ, iF, iB⟩ := id hI
    have hk := iQ i (by omega)
    have hs := tc_fg_same (k := ρ.2.1 2 i) (h := h) (g := g) (ρ.2.2.2 1) 0 ρ
    have hb : ∀ a, (tc_fg (ρ.2.1 2 i) h g (ρ.2.2.2 1) 0 ρ).1 = some a → a < 2 ^ 31 := fun a q => by have := tc_fg_lt (ρ.2.2.2 1) 0 hI (by omega) q; omega
    have iB2 := (tc_ts_I (h := h) (g := g) (k := ρ.2.1 2 i) hI).2.2.2.2.2.2.2.2.2
    refine tv_iload_n dTC_takeTools_10 rfl rfl ?_
    refine tv_aload_n dTC_takeTools_11 rfl rfl ?_
    refine gTC_44 rfl dTC_takeTools_12 ?_
    refine tv_callN0r kTC_127 (by decide) (Nat.le_of_ble_eq_true rfl) ⟨rfl, rfl⟩ rfl (cc_ak_size ρ) ⟨Nat.zero_le _, Nat.zero_le _⟩ dTC_takeTools_15 ?_
    refine tv_icmp_ge (tgt := 77) dTC_takeTools_18 (by decide) (fun c18 => absurd c18 (nI_ge (by omega) (by omega))) (fun c18 => ?_)
    refine tv_aload_n dTC_takeTools_21 rfl rfl ?_
    refine gTC_44 rfl dTC_takeTools_22 ?_
    refine tv_iload_n dTC_takeTools_25 rfl rfl ?_
    refine tv_callN1r kTC_128 (by decide) (Nat.le_of_ble_eq_true rfl) ⟨rfl, rfl⟩ rfl (cc_ak_kindAt ρ (by omega)) ⟨Nat.zero_le _, Nat.zero_le _⟩ dTC_takeTools_26 ?_
    refine tv_ist_4 dTC_takeTools_29 (by decide) ?_
    refine tv_aload_n dTC_takeTools_31 rfl rfl ?_
    refine gTC_51 rfl dTC_takeTools_32 ?_
    refine tv_iload dTC_takeTools_35 rfl ?_
    refine tv_aload_n dTC_takeTools_37 rfl rfl ?_
    refine tv_iload dTC_takeTools_38 rfl ?_
    refine tv_iload_n dTC_takeTools_40 rfl rfl ?_
    refine tv_iload_n dTC_takeTools_41 rfl rfl ?_
    refine tv_callV3r kTC_131 (by decide) (Nat.le_of_ble_eq_true rfl) ⟨rfl, rfl⟩ rfl (cc_firstGood ρ hI hk hh0 hg0) ⟨Nat.zero_le _, Nat.zero_le _⟩ dTC_takeTools_42 ?_
    refine stC_13 (tc_fg (ρ.2.1 2 i) h g (ρ.2.2.2 1) 0 ρ).1 dTC_takeTools_45 hk ?_
    refine tv_aload_n dTC_takeTools_46 rfl rfl ?_
    refine gTC_51 rfl dTC_takeTools_47 ?_
    refine tv_iload dTC_takeTools_50 rfl ?_
    refine ldC_13 dTC_takeTools_52 hk ?_
    refine tv_top (b := .inl (tc_oI (tc_fg (ρ.2.1 2 i) h g (ρ.2.2.2 1) 0 ρ).1)) (by simp [tc_s3, va_up]) ?_
    refine tv_iconst (v := -1) dTC_takeTools_53 (by decide) ?_
    refine tv_icmp_ne (tgt := 71) dTC_takeTools_54 (by decide) (fun c54 => ?_) (fun c54 => ?_)
    · have d71 : ¬ ((tc_fg (ρ.2.1 2 i) h g (ρ.2.2.2 1) 0 ρ).1 = none ∧ ¬ ρ.1 11 (ρ.2.1 2 i) = 0) := fun q => c54 ((tc_oI_m1 hb).mpr q.1)
      refine tv_iinc_3 dTC_takeTools_71 (by decide) (nI_1 i) ?_
      refine tv_goto (tgt := 10) dTC_takeTools_74 (by decide) ?_
      have e71 : tc_tt h g (n + 1) i ρ = tc_tt h g n (i + 1) (tc_ts h g (ρ.2.1 2 i) ρ) := by rw [tc_tt, if_neg d71]
      have h9 := ih (i + 1) (tc_ts h g (ρ.2.1 2 i) ρ) (tc_ts_I hI) (by rw [tc_ts_c.1]; exact hh0) (by rw [tc_ts_c.1]; exact hg0) (by rw [tc_ts_c.2]; omega) (by rw [hr, e71]) (by rw [hh, e71])
      refine tv_fg_4 ?_
      exact h9
    · have d54 := (tc_oI_m1 hb).mp c54
      refine tv_aload_n dTC_takeTools_57 rfl rfl ?_
      refine gTC_44 rfl dTC_takeTools_58 ?_
      refine tv_iload dTC_takeTools_61 rfl ?_
      refine tv_callN1r kTC_135 (by decide) (Nat.le_of_ble_eq_true rfl) ⟨rfl, rfl⟩ rfl (cc_ak_isNeeded (tc_ts h g (ρ.2.1 2 i) ρ) hk (iB2 _)) ⟨Nat.zero_le _, Nat.zero_le _⟩ dTC_takeTools_63 ?_
      refine tv_top (b := .inl (ρ.1 11 (ρ.2.1 2 i))) (congrArg Sum.inl (congrFun (hs.2.2.2.2.2.2 11 (by decide)) _)) ?_
      refine tv_if_eq (tgt := 71) dTC_takeTools_66 (by decide) (fun c66 => ?_) (fun c66 => ?_)
      · have d71 : ¬ ((tc_fg (ρ.2.1 2 i) h g (ρ.2.2.2 1) 0 ρ).1 = none ∧ ¬ ρ.1 11 (ρ.2.1 2 i) = 0) := fun q => q.2 c66
        refine tv_iinc_3 dTC_takeTools_71 (by decide) (nI_1 i) ?_
        refine tv_goto (tgt := 10) dTC_takeTools_74 (by decide) ?_
        have e71 : tc_tt h g (n + 1) i ρ = tc_tt h g n (i + 1) (tc_ts h g (ρ.2.1 2 i) ρ) := by rw [tc_tt, if_neg d71]
        have h9 := ih (i + 1) (tc_ts h g (ρ.2.1 2 i) ρ) (tc_ts_I hI) (by rw [tc_ts_c.1]; exact hh0) (by rw [tc_ts_c.1]; exact hg0) (by rw [tc_ts_c.2]; omega) (by rw [hr, e71]) (by rw [hh, e71])
        refine tv_fg_4 ?_
        exact h9
      · have e69 : tc_tt h g (n + 1) i ρ = (false, tc_ts h g (ρ.2.1 2 i) ρ) := by rw [tc_tt, if_pos ⟨d54, c66⟩]
        refine tv_iconst (v := 0) dTC_takeTools_69 (by decide) ?_
        exact tv_iret dTC_takeTools_70 rfl rfl (by rw [hr, e69]; rfl) (by rw [hh, e69])
set_option maxHeartbeats 4000000 in
set_option maxRecDepth 100000 in
theorem cc_takeTools (σ : tcS) (hI : tc_I σ) {h g : Nat} (hh0 : h < σ.2.2.2 0) (hg0 : g < σ.2.2.2 0) : tc_M yTC_takeTools cTC_takeTools 5 (some .boolean) 4 [.inr (some 0), .inl (nI h), .inl (nI g)] (tc_hC σ, some (.inl (tc_b2 (tc_take h g σ).1)), tc_hC (tc_take h g σ).2, 0, 0) := by
  refine tc_met (by decide) (Nat.le_of_ble_eq_true rfl) (Nat.le_of_eq tc_hC_len) rfl ?_
  refine tv_aload_n dTC_takeTools_0 rfl rfl ?_
  refine gTC_51 rfl dTC_takeTools_1 ?_
  refine tv_iconst (v := -1) dTC_takeTools_4 (by decide) ?_
  refine tv_callS2v kTC_76 (by decide) (Nat.le_of_ble_eq_true rfl) ⟨rfl, rfl⟩ (cc_fill (h0 := tc_hC σ) (q := 13) (m := 8) (f := fun j => tc_oI (σ.2.2.1 1 j)) (v := -1) (by decide) rfl) ⟨Nat.zero_le _, Nat.zero_le _⟩ dTC_takeTools_5 ?_
  refine tv_eq (h' := tc_hC (tc_t0 σ)) ?_ tc_hC_t0 rfl rfl
  refine tv_iconst (v := 0) dTC_takeTools_8 (by decide) ?_
  refine tv_istN_3 dTC_takeTools_9 (by decide) ?_
  exact cl_takeTools_10 (σ.2.2.2 3) 0 (tc_t0 σ) hI hh0 hg0 (by show 0 + _ = σ.2.2.2 3; omega) rfl rfl
set_option maxHeartbeats 4000000 in
set_option maxRecDepth 100000 in
theorem cl_choose_23 {g : Nat} {K : tcK} : ∀ (n : Nat) (h : Nat) (ρ : tcS), tc_I ρ → g < ρ.2.2.2 0 → h + n = ρ.2.2.2 0 → K.2.1 = some (.inl (tc_oI (tc_ch g n h ρ).1)) → K.2.2.1 = tc_hC (tc_ch g n h ρ).2 → tc_V (cTC_choose, 3, yTC_choose.cls, some .int, 5, yTC_choose.name) K 0 0 (tc_hC ρ) 23 [some (.inr (some 0)), some (.inl (nI g)), some (.inl (nI h))] [] := by
  intro n
  induction n with
  | zero =>
    intro h ρ hI hg0 hh0 hr hh
    obtain ⟨iP, iT, iN, iA, iR, iK, iO, iQ, iF, iB⟩ := id hI
    refine tv_iload_n dTC_choose_23 rfl rfl ?_
    refine tv_aload_n dTC_choose_24 rfl rfl ?_
    refine gTC_13 rfl dTC_choose_25 ?_
    refine tv_icmp_ge (tgt := 48) dTC_choose_28 (by decide) (fun c28 => ?_) (fun c28 => absurd (nI_le (by omega) (by omega)) c28)
    refine tv_aload_n dTC_choose_48 rfl rfl ?_
    refine gTC_51 rfl dTC_choose_49 ?_
    refine tv_iconst (v := -1) dTC_choose_52 (by decide) ?_
    refine tv_callS2v kTC_76 (by decide) (Nat.le_of_ble_eq_true rfl) ⟨rfl, rfl⟩ (cc_fill (h0 := tc_hC ρ) (q := 13) (m := 8) (f := fun j => tc_oI (ρ.2.2.1 1 j)) (v := -1) (by decide) rfl) ⟨Nat.zero_le _, Nat.zero_le _⟩ dTC_choose_53 ?_
    refine tv_eq (h' := tc_hC (tc_t0 ρ)) ?_ tc_hC_t0 rfl rfl
    refine tv_iconst (v := -1) dTC_choose_56 (by decide) ?_
    exact tv_iret dTC_choose_57 rfl rfl hr hh
  | succ n ih =>
    intro h ρ hI hg0 hh0 hr hh
    obtain ⟨iP, iT, iN, iA, iR, iK, iO, iQ, iF, iB⟩ := id hI
    refine tv_iload_n dTC_choose_23 rfl rfl ?_
    refine tv_aload_n dTC_choose_24 rfl rfl ?_
    refine gTC_13 rfl dTC_choose_25 ?_
    refine tv_icmp_ge (tgt := 48) dTC_choose_28 (by decide) (fun c28 => absurd c28 (nI_ge (by omega) (by omega))) (fun c28 => ?_)
    refine tv_aload_n dTC_choose_31 rfl rfl ?_
    refine tv_iload_n dTC_choose_32 rfl rfl ?_
    refine tv_iload_n dTC_choose_33 rfl rfl ?_
    refine tv_callV2r kTC_113 (by decide) (Nat.le_of_ble_eq_true rfl) ⟨rfl, rfl⟩ rfl (cc_takeTools ρ hI (by omega) hg0) ⟨Nat.zero_le _, Nat.zero_le _⟩ dTC_choose_34 ?_
    refine tv_if_eq (tgt := 42) dTC_choose_37 (by decide) (fun c37 => ?_) (fun c37 => ?_)
    · refine tv_iinc_2 dTC_choose_42 (by decide) (nI_1 h) ?_
      refine tv_goto (tgt := 23) dTC_choose_45 (by decide) ?_
      have e37 : tc_ch g (n + 1) h ρ = tc_ch g n (h + 1) (tc_take h g ρ).2 := by rw [tc_ch, if_neg (by rw [tc_b2_0.mp c37]; simp)]
      have hk := tc_take_k (h := h) (g := g) hI
      exact ih (h + 1) _ hk.1 (by rw [hk.2]; exact hg0) (by rw [hk.2]; omega) (by rw [hr, e37]) (by rw [hh, e37])
    · have e37 : tc_ch g (n + 1) h ρ = (some h, (tc_take h g ρ).2) := by rw [tc_ch, if_pos (tc_b2_n.mp c37)]
      refine tv_iload_n dTC_choose_40 rfl rfl ?_
      exact tv_iret dTC_choose_41 rfl rfl (by rw [hr, e37]; rfl) (by rw [hh, e37])
set_option maxHeartbeats 4000000 in
set_option maxRecDepth 100000 in
theorem cc_choose (σ : tcS) (hI : tc_I σ) {g : Nat} (hg0 : g < σ.2.2.2 0) : tc_M yTC_choose cTC_choose 3 (some .int) 5 [.inr (some 0), .inl (nI g)] (tc_hC σ, some (.inl (tc_oI (tc_choose g σ).1)), tc_hC (tc_choose g σ).2, 0, 0) := by
  obtain ⟨iP, iT, iN, iA, iR, iK, iO, iQ, iF, iB⟩ := id hI
  have hI2 : tc_I (tc_s4 (tc_settle σ) 4 0) := by
    obtain ⟨jP, jT, jN, jA, jR, jK, jO, jQ, jF, jB⟩ := tc_I_of hI (tc_settle_k σ).1 (tc_settle_k σ).2
    exact ⟨jP, jT, jN, jA, Nat.zero_le _, jK, jO, jQ, jF, jB⟩
  refine tc_met (by decide) (Nat.le_of_ble_eq_true rfl) (Nat.le_of_eq tc_hC_len) rfl ?_
  refine tv_aload_n dTC_choose_0 rfl rfl ?_
  refine tv_iload_n dTC_choose_1 rfl rfl ?_
  refine tv_callV1r kTC_104 (by decide) (Nat.le_of_ble_eq_true rfl) ⟨rfl, rfl⟩ rfl (cc_isPlatform σ _) ⟨Nat.zero_le _, Nat.zero_le _⟩ dTC_choose_2 ?_
  refine tv_if_ne (tgt := 10) dTC_choose_5 (by decide) (fun c5 => ?_) (fun c5 => absurd (tc_b2_0.mp c5) (by rw [tc_isN_nI hg0 (by omega)]; simp))
  refine tv_aload_n dTC_choose_10 rfl rfl ?_
  refine tv_callV0v kTC_107 (by decide) (Nat.le_of_ble_eq_true rfl) ⟨rfl, rfl⟩ rfl (cc_settleBuilt σ hI) ⟨Nat.zero_le _, Nat.zero_le _⟩ dTC_choose_11 ?_
  refine tv_aload_n dTC_choose_14 rfl rfl ?_
  refine gTC_57 rfl dTC_choose_15 ?_
  refine tv_callN0v kTC_110 (by decide) (Nat.le_of_ble_eq_true rfl) ⟨rfl, rfl⟩ rfl (cc_rl_clear (tc_settle σ)) ⟨Nat.zero_le _, Nat.zero_le _⟩ dTC_choose_18 ?_
  refine tv_iconst (v := 0) dTC_choose_21 (by decide) ?_
  refine tv_istN_2 dTC_choose_22 (by decide) ?_
  have hs := tc_settle_k σ
  exact cl_choose_23 (σ.2.2.2 0) 0 (tc_s4 (tc_settle σ) 4 0) hI2 (by show g < (tc_settle σ).2.2.2 0; rw [hs.1]; exact hg0) (by show 0 + _ = (tc_settle σ).2.2.2 0; rw [hs.1]; omega) rfl rfl
set_option maxHeartbeats 4000000 in
set_option maxRecDepth 100000 in
theorem cc_choose_no (σ : tcS) {x : Int32} (hx : tc_isN x (σ.2.2.2 0) = false) : tc_M yTC_choose cTC_choose 3 (some .int) 5 [.inr (some 0), .inl x] (tc_hC σ, some (.inl (-1)), tc_hC σ, 0, 0) := by
  refine tc_met (by decide) (Nat.le_of_ble_eq_true rfl) (Nat.le_refl _) rfl ?_
  refine tv_aload_n dTC_choose_0 rfl rfl ?_
  refine tv_iload_n dTC_choose_1 rfl rfl ?_
  refine tv_callV1r kTC_104 (by decide) (Nat.le_of_ble_eq_true rfl) ⟨rfl, rfl⟩ rfl (cc_isPlatform σ _) ⟨Nat.zero_le _, Nat.zero_le _⟩ dTC_choose_2 ?_
  refine tv_if_ne (tgt := 10) dTC_choose_5 (by decide) (fun c5 => absurd (tc_b2_n.mp c5) (by rw [hx]; simp)) (fun c5 => ?_)
  refine tv_iconst (v := -1) dTC_choose_8 (by decide) ?_
  exact tv_iret dTC_choose_9 rfl rfl rfl rfl
end
section
set_option maxHeartbeats 4000000 in
set_option maxRecDepth 100000 in
theorem cc_platform (σ : tcS) (hI : tc_I σ) (c : Int32) : tc_M yTC_platform cTC_platform 2 (some .int) 0 [.inr (some 0), .inl c] (tc_hC σ, some (.inl (tc_oI (tc_platform σ c).1)), tc_hC (tc_platform σ c).2, 0, 0) := by
  obtain ⟨iP, iT, iN, iA, iR, iK, iO, iQ, iF, iB⟩ := id hI
  refine tc_met (by decide) (Nat.le_of_ble_eq_true rfl) (Nat.le_of_eq tc_hC_len) rfl ?_
  refine tv_aload_n dTC_platform_0 rfl rfl ?_
  refine gTC_13 rfl dTC_platform_1 ?_
  refine tv_bipush (v := 6) dTC_platform_4 (by decide) ?_
  refine tv_icmp_lt (tgt := 11) dTC_platform_6 (by decide) (fun c6 => ?_) (fun c6 => ?_)
  · have d6 : ¬ 6 ≤ σ.2.2.2 0 := Nat.not_le.mpr ((nI_ltI (b := 6) (by omega) (by omega)).mp c6)
    have e6 : tc_platform σ c = (some (σ.2.2.2 0), tc_s4 (tc_s1 σ 0 (upd (σ.1 0) (σ.2.2.2 0) c)) 0 (σ.2.2.2 0 + 1)) := by unfold tc_platform; rw [if_neg d6]
    refine tv_aload_n dTC_platform_11 rfl rfl ?_
    refine gTC_9 rfl dTC_platform_12 ?_
    refine tv_aload_n dTC_platform_15 rfl rfl ?_
    refine gTC_13 rfl dTC_platform_16 ?_
    refine tv_iload_n dTC_platform_19 rfl rfl ?_
    refine stC_1 dTC_platform_20 (by omega) ?_
    refine tv_aload_n dTC_platform_21 rfl rfl ?_
    refine tv_dup dTC_platform_22 ?_
    refine gTC_13 rfl dTC_platform_23 ?_
    refine tv_iconst (v := 1) dTC_platform_26 (by decide) ?_
    refine tv_iadd dTC_platform_27 ?_
    refine tv_top (b := .inl (nI (σ.2.2.2 0 + 1))) (congrArg Sum.inl (nI_1 _)) ?_
    refine pTC_13 rfl dTC_platform_28 ?_
    refine tv_aload_n dTC_platform_31 rfl rfl ?_
    refine gTC_13 rfl dTC_platform_32 ?_
    refine tv_iconst (v := 1) dTC_platform_35 (by decide) ?_
    refine tv_isub dTC_platform_36 ?_
    refine tv_top (b := .inl (nI (σ.2.2.2 0))) (congrArg Sum.inl (nI_pred _)) ?_
    exact tv_iret dTC_platform_37 rfl rfl (by show some (Sum.inl (tc_oI (tc_platform σ c).1)) = _; rw [e6]; rfl) (by show tc_hC (tc_platform σ c).2 = _; rw [e6])
  · have d6 : 6 ≤ σ.2.2.2 0 := Nat.not_lt.mp (fun q => c6 (nI_lt (b := 6) q (by omega)))
    have e6 : tc_platform σ c = (none, σ) := by unfold tc_platform; rw [if_pos d6]
    refine tv_iconst (v := -1) dTC_platform_9 (by decide) ?_
    exact tv_iret dTC_platform_10 rfl rfl (by show some (Sum.inl (tc_oI (tc_platform σ c).1)) = _; rw [e6]; rfl) (by show tc_hC (tc_platform σ c).2 = _; rw [e6])
set_option maxHeartbeats 4000000 in
set_option maxRecDepth 100000 in
theorem cc_tool (σ : tcS) (hI : tc_I σ) {k : Nat} (hk : k < 8) (r m v : Int32) : tc_M yTC_tool cTC_tool 6 (some .int) 1 [.inr (some 0), .inl (nI k), .inl r, .inl m, .inl v] (tc_hC σ, some (.inl (tc_oI (tc_tool σ k r m v).1)), tc_hC (tc_tool σ k r m v).2, 0, 0) := by
  obtain ⟨iP, iT, iN, iA, iR, iK, iO, iQ, iF, iB⟩ := id hI
  refine tc_met (by decide) (Nat.le_of_ble_eq_true rfl) (Nat.le_of_eq tc_hC_len) rfl ?_
  refine tv_aload_n dTC_tool_0 rfl rfl ?_
  refine gTC_35 rfl dTC_tool_1 ?_
  refine tv_bipush (v := 24) dTC_tool_4 (by decide) ?_
  refine tv_icmp_ge (tgt := 16) dTC_tool_6 (by decide) (fun c6 => ?_) (fun c6 => ?_)
  · have d6 : 24 ≤ σ.2.2.2 1 := (nI_leI (a := 24) (by omega) (by omega)).mp c6
    have e6 : tc_tool σ k r m v = (none, σ) := by unfold tc_tool; rw [if_pos d6]
    refine tv_iconst (v := -1) dTC_tool_16 (by decide) ?_
    exact tv_iret dTC_tool_17 rfl rfl (by show some (Sum.inl (tc_oI (tc_tool σ k r m v).1)) = _; rw [e6]; rfl) (by show tc_hC (tc_tool σ k r m v).2 = _; rw [e6])
  · have d6 : ¬ 24 ≤ σ.2.2.2 1 := fun q => c6 (nI_le (a := 24) q (by omega))
    have e6 := show tc_tool σ k r m v = (some (σ.2.2.2 1), _) by unfold tc_tool; rw [if_neg d6]
    refine tv_iload_n dTC_tool_9 rfl rfl ?_
    refine tv_callS1r kTC_82 (by decide) (Nat.le_of_ble_eq_true rfl) ⟨rfl, rfl⟩ (cc_isKind _ _) ⟨Nat.zero_le _, Nat.zero_le _⟩ dTC_tool_10 ?_
    refine tv_if_ne (tgt := 18) dTC_tool_13 (by decide) (fun c13 => ?_) (fun c13 => absurd (tc_b2_0.mp c13) (by rw [tc_isN_nI hk (by omega)]; simp))
    refine tv_aload_n dTC_tool_18 rfl rfl ?_
    refine gTC_35 rfl dTC_tool_19 ?_
    refine tv_ist_5 dTC_tool_22 (by decide) ?_
    refine tv_aload_n dTC_tool_24 rfl rfl ?_
    refine gTC_17 rfl dTC_tool_25 ?_
    refine tv_iload dTC_tool_28 rfl ?_
    refine tv_iload_n dTC_tool_30 rfl rfl ?_
    refine stC_2 dTC_tool_31 (by omega) ?_
    refine tv_aload_n dTC_tool_32 rfl rfl ?_
    refine gTC_20 rfl dTC_tool_33 ?_
    refine tv_iload dTC_tool_36 rfl ?_
    refine tv_iload_n dTC_tool_38 rfl rfl ?_
    refine stC_3 dTC_tool_39 (by omega) ?_
    refine tv_aload_n dTC_tool_40 rfl rfl ?_
    refine gTC_23 rfl dTC_tool_41 ?_
    refine tv_iload dTC_tool_44 rfl ?_
    refine tv_iload_n dTC_tool_46 rfl rfl ?_
    refine stC_4 dTC_tool_47 (by omega) ?_
    refine tv_aload_n dTC_tool_48 rfl rfl ?_
    refine gTC_26 rfl dTC_tool_49 ?_
    refine tv_iload dTC_tool_52 rfl ?_
    refine tv_iload dTC_tool_54 rfl ?_
    refine stC_5 dTC_tool_56 (by omega) ?_
    refine tv_aload_n dTC_tool_57 rfl rfl ?_
    refine gTC_32 rfl dTC_tool_58 ?_
    refine tv_iload dTC_tool_61 rfl ?_
    refine tv_iload dTC_tool_63 rfl ?_
    refine stC_7 dTC_tool_65 (by omega) ?_
    refine tv_aload_n dTC_tool_66 rfl rfl ?_
    refine tv_dup dTC_tool_67 ?_
    refine gTC_35 rfl dTC_tool_68 ?_
    refine tv_iconst (v := 1) dTC_tool_71 (by decide) ?_
    refine tv_iadd dTC_tool_72 ?_
    refine tv_top (b := .inl (nI (σ.2.2.2 1 + 1))) (congrArg Sum.inl (nI_1 _)) ?_
    refine pTC_35 rfl dTC_tool_73 ?_
    refine tv_iload dTC_tool_76 rfl ?_
    exact tv_iret dTC_tool_78 rfl rfl (by show some (Sum.inl (tc_oI (tc_tool σ k r m v).1)) = _; rw [e6]; rfl) (by show tc_hC (tc_tool σ k r m v).2 = _; rw [e6]; rfl)
set_option maxHeartbeats 4000000 in
set_option maxRecDepth 100000 in
theorem cc_tool_no (σ : tcS) {x : Int32} (hx : tc_isN x 8 = false) (r m v : Int32) : tc_M yTC_tool cTC_tool 6 (some .int) 1 [.inr (some 0), .inl x, .inl r, .inl m, .inl v] (tc_hC σ, some (.inl (-1)), tc_hC σ, 0, 0) := by
  refine tc_met (by decide) (Nat.le_of_ble_eq_true rfl) (Nat.le_refl _) rfl ?_
  refine tv_aload_n dTC_tool_0 rfl rfl ?_
  refine gTC_35 rfl dTC_tool_1 ?_
  refine tv_bipush (v := 24) dTC_tool_4 (by decide) ?_
  refine tv_icmp_ge (tgt := 16) dTC_tool_6 (by decide) (fun c6 => ?_) (fun c6 => ?_)
  · refine tv_iconst (v := -1) dTC_tool_16 (by decide) ?_
    exact tv_iret dTC_tool_17 rfl rfl rfl rfl
  · refine tv_iload_n dTC_tool_9 rfl rfl ?_
    refine tv_callS1r kTC_82 (by decide) (Nat.le_of_ble_eq_true rfl) ⟨rfl, rfl⟩ (cc_isKind _ _) ⟨Nat.zero_le _, Nat.zero_le _⟩ dTC_tool_10 ?_
    refine tv_if_ne (tgt := 18) dTC_tool_13 (by decide) (fun c13 => absurd (tc_b2_n.mp c13) (by rw [hx]; simp)) (fun c13 => ?_)
    refine tv_iconst (v := -1) dTC_tool_16 (by decide) ?_
    exact tv_iret dTC_tool_17 rfl rfl rfl rfl
set_option maxHeartbeats 4000000 in
set_option maxRecDepth 100000 in
theorem cl_placeOf_2 (σ : tcS) (hI : tc_I σ) {t : Nat} (ht : t < σ.2.2.2 1) {K : tcK} : ∀ (n : Nat) (i : Nat), i + n = σ.2.2.2 1 - 1 → K.2.1 = some (.inl (nI (tc_place σ t n i))) → K.2.2.1 = tc_hC σ → tc_V (cTC_placeOf, 3, yTC_placeOf.cls, some .int, 0, yTC_placeOf.name) K 0 0 (tc_hC σ) 2 [some (.inr (some 0)), some (.inl (nI t)), some (.inl (nI i))] [] := by
  intro n
  induction n with
  | zero =>
    intro i hi hr hh
    obtain ⟨iP, iT, iN, iA, iR, iK, iO, iQ, iF, iB⟩ := id hI
    refine tv_iload_n dTC_placeOf_2 rfl rfl ?_
    refine tv_aload_n dTC_placeOf_3 rfl rfl ?_
    refine gTC_35 rfl dTC_placeOf_4 ?_
    refine tv_iconst (v := 1) dTC_placeOf_7 (by decide) ?_
    refine tv_isub dTC_placeOf_8 ?_
    refine tv_top (b := .inl (nI (σ.2.2.2 1 - 1))) (congrArg Sum.inl (pk_sub (b := 1) (by omega))) ?_
    refine tv_icmp_ge (tgt := 28) dTC_placeOf_9 (by decide) (fun c9 => ?_) (fun c9 => absurd (nI_le (by omega) (by omega)) c9)
    refine tv_iload_n dTC_placeOf_28 rfl rfl ?_
    exact tv_iret dTC_placeOf_29 rfl rfl hr hh
  | succ n ih =>
    intro i hi hr hh
    obtain ⟨iP, iT, iN, iA, iR, iK, iO, iQ, iF, iB⟩ := id hI
    refine tv_iload_n dTC_placeOf_2 rfl rfl ?_
    refine tv_aload_n dTC_placeOf_3 rfl rfl ?_
    refine gTC_35 rfl dTC_placeOf_4 ?_
    refine tv_iconst (v := 1) dTC_placeOf_7 (by decide) ?_
    refine tv_isub dTC_placeOf_8 ?_
    refine tv_top (b := .inl (nI (σ.2.2.2 1 - 1))) (congrArg Sum.inl (pk_sub (b := 1) (by omega))) ?_
    refine tv_icmp_ge (tgt := 28) dTC_placeOf_9 (by decide) (fun c9 => absurd c9 (nI_ge (by omega) (by omega))) (fun c9 => ?_)
    refine tv_aload_n dTC_placeOf_12 rfl rfl ?_
    refine gTC_32 rfl dTC_placeOf_13 ?_
    refine tv_iload_n dTC_placeOf_16 rfl rfl ?_
    refine ldC_7 dTC_placeOf_17 (by omega) ?_
    refine tv_iload_n dTC_placeOf_18 rfl rfl ?_
    refine tv_icmp_eq (tgt := 28) dTC_placeOf_19 (by decide) (fun c19 => ?_) (fun c19 => ?_)
    · have d19 := (nI_eq (by have := iO i (by omega); omega) (by omega)).mp c19
      refine tv_iload_n dTC_placeOf_28 rfl rfl ?_
      exact tv_iret dTC_placeOf_29 rfl rfl (by rw [hr, tc_place, if_pos d19]) hh
    · refine tv_iinc_2 dTC_placeOf_22 (by decide) (nI_1 i) ?_
      refine tv_goto (tgt := 2) dTC_placeOf_25 (by decide) ?_
      exact ih (i + 1) (by omega) (by rw [hr, tc_place, if_neg (fun q => c19 (by rw [q]))]) hh
set_option maxHeartbeats 4000000 in
set_option maxRecDepth 100000 in
theorem cc_placeOf (σ : tcS) (hI : tc_I σ) {t : Nat} (ht : t < σ.2.2.2 1) : tc_M yTC_placeOf cTC_placeOf 3 (some .int) 0 [.inr (some 0), .inl (nI t)] (tc_hC σ, some (.inl (nI (tc_from σ t))), tc_hC σ, 0, 0) := by
  refine tc_met (by decide) (Nat.le_of_ble_eq_true rfl) (Nat.le_of_eq tc_hC_len) rfl ?_
  refine tv_iconst (v := 0) dTC_placeOf_0 (by decide) ?_
  refine tv_istN_2 dTC_placeOf_1 (by decide) ?_
  exact cl_placeOf_2 σ hI ht (σ.2.2.2 1 - 1) 0 (by omega) rfl rfl
theorem tc_place_lt {σ : tcS} {t : Nat} : ∀ (n i : Nat), i ≤ tc_place σ t n i ∧ tc_place σ t n i ≤ i + n
  | 0, i => ⟨Nat.le_refl _, Nat.le_refl _⟩
  | n + 1, i => by
    unfold tc_place
    split
    · exact ⟨Nat.le_refl _, by omega⟩
    · have := tc_place_lt (σ := σ) (t := t) n (i + 1)
      omega
theorem tc_from_lt {σ : tcS} {t : Nat} (ht : t < σ.2.2.2 1) : tc_from σ t < σ.2.2.2 1 := by
  have := tc_place_lt (σ := σ) (t := t) (σ.2.2.2 1 - 1) 0
  unfold tc_from
  omega
set_option maxHeartbeats 4000000 in
set_option maxRecDepth 100000 in
theorem cl_order_31 {p : Nat} {x1 : Option tcV} {y3 : Int32} {K : tcK} : ∀ (n : Nat) (j : Nat) (ρ : tcS), j + n = p ∨ (n = 0 ∧ p ≤ j) → j < 2 ^ 30 → p < 24 → tc_V (cTC_order, 5, yTC_order.cls, some .boolean, 1, yTC_order.name) K 0 0 (tc_hC (tc_up tc_o1 n j ρ)) 59 [some (.inr (some 0)), x1, some (.inl (nI p)), some (.inl y3), none] [] → tc_V (cTC_order, 5, yTC_order.cls, some .boolean, 1, yTC_order.name) K 0 0 (tc_hC ρ) 31 [some (.inr (some 0)), x1, some (.inl (nI p)), some (.inl y3), some (.inl (nI j))] [] := by
  intro n
  induction n with
  | zero =>
    intro j ρ hj hb hp hx
    refine tv_iload dTC_order_31 rfl ?_
    refine tv_iload_n dTC_order_33 rfl rfl ?_
    refine tv_icmp_ge (tgt := 59) dTC_order_34 (by decide) (fun c34 => ?_) (fun c34 => absurd (nI_le (by omega) (by omega)) c34)
    refine tv_fg_4 ?_
    exact hx
  | succ n ih =>
    intro j ρ hj hb hp hx
    refine tv_iload dTC_order_31 rfl ?_
    refine tv_iload_n dTC_order_33 rfl rfl ?_
    refine tv_icmp_ge (tgt := 59) dTC_order_34 (by decide) (fun c34 => absurd c34 (nI_ge (by omega) (by omega))) (fun c34 => ?_)
    refine tv_aload_n dTC_order_37 rfl rfl ?_
    refine gTC_32 rfl dTC_order_38 ?_
    refine tv_iload dTC_order_41 rfl ?_
    refine tv_aload_n dTC_order_43 rfl rfl ?_
    refine gTC_32 rfl dTC_order_44 ?_
    refine tv_iload dTC_order_47 rfl ?_
    refine tv_iconst (v := 1) dTC_order_49 (by decide) ?_
    refine tv_iadd dTC_order_50 ?_
    refine tv_top (b := .inl (nI (j + 1))) (congrArg Sum.inl (nI_1 j)) ?_
    refine ldC_7 dTC_order_51 (by omega) ?_
    refine stC_7 dTC_order_52 (by omega) ?_
    refine tv_iinc_4 dTC_order_53 (by decide) (nI_1 j) ?_
    refine tv_goto (tgt := 31) dTC_order_56 (by decide) ?_
    exact ih (j + 1) (tc_o1 j ρ) (by omega) (by omega) hp hx
set_option maxHeartbeats 4000000 in
set_option maxRecDepth 100000 in
theorem cl_order_62 {p : Nat} {x1 x3 : Option tcV} {K : tcK} : ∀ (n : Nat) (j : Nat) (ρ : tcS), p + n = j ∨ (n = 0 ∧ j ≤ p) → j < 24 → p < 24 → tc_V (cTC_order, 5, yTC_order.cls, some .boolean, 1, yTC_order.name) K 0 0 (tc_hC (tc_dn tc_o2 n j ρ)) 90 [some (.inr (some 0)), x1, some (.inl (nI p)), x3, none] [] → tc_V (cTC_order, 5, yTC_order.cls, some .boolean, 1, yTC_order.name) K 0 0 (tc_hC ρ) 62 [some (.inr (some 0)), x1, some (.inl (nI p)), x3, some (.inl (nI j))] [] := by
  intro n
  induction n with
  | zero =>
    intro j ρ hj hb hp hx
    refine tv_iload dTC_order_62 rfl ?_
    refine tv_iload_n dTC_order_64 rfl rfl ?_
    refine tv_icmp_le (tgt := 90) dTC_order_65 (by decide) (fun c65 => ?_) (fun c65 => absurd (nI_le (by omega) (by omega)) c65)
    refine tv_fg_4 ?_
    exact hx
  | succ n ih =>
    intro j ρ hj hb hp hx
    refine tv_iload dTC_order_62 rfl ?_
    refine tv_iload_n dTC_order_64 rfl rfl ?_
    refine tv_icmp_le (tgt := 90) dTC_order_65 (by decide) (fun c65 => absurd c65 (nI_ge (by omega) (by omega))) (fun c65 => ?_)
    refine tv_aload_n dTC_order_68 rfl rfl ?_
    refine gTC_32 rfl dTC_order_69 ?_
    refine tv_iload dTC_order_72 rfl ?_
    refine tv_aload_n dTC_order_74 rfl rfl ?_
    refine gTC_32 rfl dTC_order_75 ?_
    refine tv_iload dTC_order_78 rfl ?_
    refine tv_iconst (v := 1) dTC_order_80 (by decide) ?_
    refine tv_isub dTC_order_81 ?_
    refine tv_top (b := .inl (nI (j - 1))) (congrArg Sum.inl (pk_sub (b := 1) (by omega))) ?_
    refine ldC_7 dTC_order_82 (by omega) ?_
    refine stC_7 dTC_order_83 (by omega) ?_
    refine tv_iinc_4 dTC_order_84 (by decide) (v := nI (j - 1)) (sb_m1 (by omega)) ?_
    refine tv_goto (tgt := 62) dTC_order_87 (by decide) ?_
    exact ih (j - 1) (tc_o2 j ρ) (by omega) (by omega) hp hx
set_option maxHeartbeats 4000000 in
set_option maxRecDepth 100000 in
theorem cc_order (σ : tcS) (hI : tc_I σ) {t p : Nat} (ht : t < σ.2.2.2 1) (hp : p < σ.2.2.2 1) : tc_M yTC_order cTC_order 5 (some .boolean) 1 [.inr (some 0), .inl (nI t), .inl (nI p)] (tc_hC σ, some (.inl 1), tc_hC (tc_order σ t p), 0, 0) := by
  obtain ⟨iP, iT, iN, iA, iR, iK, iO, iQ, iF, iB⟩ := id hI
  refine tc_met (by decide) (Nat.le_of_ble_eq_true rfl) (Nat.le_of_eq tc_hC_len) rfl ?_
  refine tv_aload_n dTC_order_0 rfl rfl ?_
  refine tv_iload_n dTC_order_1 rfl rfl ?_
  refine tv_callV1r kTC_86 (by decide) (Nat.le_of_ble_eq_true rfl) ⟨rfl, rfl⟩ rfl (cc_isTool σ _) ⟨Nat.zero_le _, Nat.zero_le _⟩ dTC_order_2 ?_
  refine tv_if_eq (tgt := 20) dTC_order_5 (by decide) (fun c5 => absurd (tc_b2_0.mp c5) (by rw [tc_isN_nI ht (by omega)]; simp)) (fun c5 => ?_)
  refine tv_iload_n dTC_order_8 rfl rfl ?_
  refine tv_if_lt (tgt := 20) dTC_order_9 (by decide) (fun c9 => absurd c9 (nI_pos (by omega))) (fun c9 => ?_)
  refine tv_iload_n dTC_order_12 rfl rfl ?_
  refine tv_aload_n dTC_order_13 rfl rfl ?_
  refine gTC_35 rfl dTC_order_14 ?_
  refine tv_icmp_lt (tgt := 22) dTC_order_17 (by decide) (fun c17 => ?_) (fun c17 => absurd (nI_lt hp (by omega)) c17)
  refine tv_aload_n dTC_order_22 rfl rfl ?_
  refine tv_iload_n dTC_order_23 rfl rfl ?_
  refine tv_callV1r kTC_89 (by decide) (Nat.le_of_ble_eq_true rfl) ⟨rfl, rfl⟩ rfl (cc_placeOf σ hI ht) ⟨Nat.zero_le _, Nat.zero_le _⟩ dTC_order_24 ?_
  refine tv_istN_3 dTC_order_27 (by decide) ?_
  refine tv_iload_n dTC_order_28 rfl rfl ?_
  refine tv_ist_4 dTC_order_29 (by decide) ?_
  have hf := tc_from_lt ht
  refine cl_order_31 (p - tc_from σ t) (tc_from σ t) σ (by omega) (by omega) (by omega) ?_
  refine tv_iload_n dTC_order_59 rfl rfl ?_
  refine tv_ist_4 dTC_order_60 (by decide) ?_
  refine cl_order_62 (tc_from σ t - p) (tc_from σ t) _ (by omega) (by omega) (by omega) ?_
  refine tv_aload_n dTC_order_90 rfl rfl ?_
  refine gTC_32 rfl dTC_order_91 ?_
  refine tv_iload_n dTC_order_94 rfl rfl ?_
  refine tv_iload_n dTC_order_95 rfl rfl ?_
  refine stC_7 dTC_order_96 (by omega) ?_
  refine tv_iconst (v := 1) dTC_order_97 (by decide) ?_
  exact tv_iret dTC_order_98 rfl rfl rfl rfl
set_option maxHeartbeats 4000000 in
set_option maxRecDepth 100000 in
theorem cc_order_no (σ : tcS) (hT : σ.2.2.2 1 ≤ 24) {x y : Int32} (hx : tc_isN x (σ.2.2.2 1) = false ∨ tc_isN y (σ.2.2.2 1) = false) : tc_M yTC_order cTC_order 5 (some .boolean) 1 [.inr (some 0), .inl x, .inl y] (tc_hC σ, some (.inl 0), tc_hC σ, 0, 0) := by
  refine tc_met (by decide) (Nat.le_of_ble_eq_true rfl) (Nat.le_refl _) rfl ?_
  refine tv_aload_n dTC_order_0 rfl rfl ?_
  refine tv_iload_n dTC_order_1 rfl rfl ?_
  refine tv_callV1r kTC_86 (by decide) (Nat.le_of_ble_eq_true rfl) ⟨rfl, rfl⟩ rfl (cc_isTool σ _) ⟨Nat.zero_le _, Nat.zero_le _⟩ dTC_order_2 ?_
  refine tv_if_eq (tgt := 20) dTC_order_5 (by decide) (fun c5 => ?_) (fun c5 => ?_)
  · refine tv_iconst (v := 0) dTC_order_20 (by decide) ?_
    exact tv_iret dTC_order_21 rfl rfl rfl rfl
  · have hy : tc_isN y (σ.2.2.2 1) = false := by
      rcases hx with q | q
      · exact absurd (tc_b2_0.mpr q) c5
      · exact q
    refine tv_iload_n dTC_order_8 rfl rfl ?_
    refine tv_if_lt (tgt := 20) dTC_order_9 (by decide) (fun c9 => ?_) (fun c9 => ?_)
    · refine tv_iconst (v := 0) dTC_order_20 (by decide) ?_
      exact tv_iret dTC_order_21 rfl rfl rfl rfl
    · refine tv_iload_n dTC_order_12 rfl rfl ?_
      refine tv_aload_n dTC_order_13 rfl rfl ?_
      refine gTC_35 rfl dTC_order_14 ?_
      refine tv_icmp_lt (tgt := 22) dTC_order_17 (by decide) (fun c17 => absurd (tc_isN_in (n := σ.2.2.2 1) c9 (fun q => by rw [Int32.le_iff_toInt_le] at q; rw [Int32.lt_iff_toInt_lt] at c17; omega)) (by rw [hy]; simp)) (fun c17 => ?_)
      refine tv_iconst (v := 0) dTC_order_20 (by decide) ?_
      exact tv_iret dTC_order_21 rfl rfl rfl rfl
set_option maxHeartbeats 4000000 in
set_option maxRecDepth 100000 in
theorem cc_needs (σ : tcS) (hI : tc_I σ) {t k : Nat} (ht : t < σ.2.2.2 1) (hk : k < 8) : tc_M yTC_needs cTC_needs 3 (some .boolean) 1 [.inr (some 0), .inl (nI t), .inl (nI k)] (tc_hC σ, some (.inl (tc_b2 (tc_needs σ t k).1)), tc_hC (tc_needs σ t k).2, 0, 0) := by
  obtain ⟨iP, iT, iN, iA, iR, iK, iO, iQ, iF, iB⟩ := id hI
  refine tc_met (by decide) (Nat.le_of_ble_eq_true rfl) (Nat.le_of_eq tc_hC_len) rfl ?_
  refine tv_aload_n dTC_needs_0 rfl rfl ?_
  refine tv_iload_n dTC_needs_1 rfl rfl ?_
  refine tv_callV1r kTC_86 (by decide) (Nat.le_of_ble_eq_true rfl) ⟨rfl, rfl⟩ rfl (cc_isTool σ _) ⟨Nat.zero_le _, Nat.zero_le _⟩ dTC_needs_2 ?_
  refine tv_if_eq (tgt := 15) dTC_needs_5 (by decide) (fun c5 => absurd (tc_b2_0.mp c5) (by rw [tc_isN_nI ht (by omega)]; simp)) (fun c5 => ?_)
  refine tv_iload_n dTC_needs_8 rfl rfl ?_
  refine tv_callS1r kTC_82 (by decide) (Nat.le_of_ble_eq_true rfl) ⟨rfl, rfl⟩ (cc_isKind _ _) ⟨Nat.zero_le _, Nat.zero_le _⟩ dTC_needs_9 ?_
  refine tv_if_ne (tgt := 17) dTC_needs_12 (by decide) (fun c12 => ?_) (fun c12 => absurd (tc_b2_0.mp c12) (by rw [tc_isN_nI hk (by omega)]; simp))
  refine tv_aload_n dTC_needs_17 rfl rfl ?_
  refine gTC_29 rfl dTC_needs_18 ?_
  refine tv_iload_n dTC_needs_21 rfl rfl ?_
  refine ldC_6 dTC_needs_22 (by omega) ?_
  refine tv_iload_n dTC_needs_23 rfl rfl ?_
  refine tv_callS2r kTC_93 (by decide) (Nat.le_of_ble_eq_true rfl) ⟨rfl, rfl⟩ (cc_hasBit _ _ (by omega)) ⟨Nat.zero_le _, Nat.zero_le _⟩ dTC_needs_24 ?_
  refine tv_if_ne (tgt := 39) dTC_needs_27 (by decide) (fun c27 => ?_) (fun c27 => ?_)
  · have e27 : tc_needs σ t k = (false, σ) := by unfold tc_needs; rw [if_pos (Or.inl (tc_b2_n.mp c27))]
    refine tv_iconst (v := 0) dTC_needs_39 (by decide) ?_
    exact tv_iret dTC_needs_40 rfl rfl (by show some (Sum.inl (tc_b2 (tc_needs σ t k).1)) = _; rw [e27]; rfl) (by show tc_hC (tc_needs σ t k).2 = _; rw [e27])
  · have d27 := tc_b2_0.mp c27
    refine tv_aload_n dTC_needs_30 rfl rfl ?_
    refine gTC_38 rfl dTC_needs_31 ?_
    refine tv_bipush (v := 40) dTC_needs_34 (by decide) ?_
    refine tv_icmp_lt (tgt := 41) dTC_needs_36 (by decide) (fun c36 => ?_) (fun c36 => ?_)
    · have d36 : ¬ 40 ≤ σ.2.2.2 2 := Nat.not_le.mpr ((nI_ltI (b := 40) (by omega) (by omega)).mp c36)
      have e27 := show tc_needs σ t k = (true, _) by unfold tc_needs; rw [if_neg (fun q => q.elim (fun q => by rw [d27] at q; cases q) d36)]
      refine tv_aload_n dTC_needs_41 rfl rfl ?_
      refine gTC_29 rfl dTC_needs_42 ?_
      refine tv_iload_n dTC_needs_45 rfl rfl ?_
      refine tv_dup2 dTC_needs_46 ?_
      refine ldC_6 dTC_needs_47 (by omega) ?_
      refine tv_iconst (v := 1) dTC_needs_48 (by decide) ?_
      refine tv_iload_n dTC_needs_49 rfl rfl ?_
      refine tv_ishl dTC_needs_50 ?_
      refine tv_ior dTC_needs_51 ?_
      refine stC_6 dTC_needs_52 (by omega) ?_
      refine tv_aload_n dTC_needs_53 rfl rfl ?_
      refine tv_dup dTC_needs_54 ?_
      refine gTC_38 rfl dTC_needs_55 ?_
      refine tv_iconst (v := 1) dTC_needs_58 (by decide) ?_
      refine tv_iadd dTC_needs_59 ?_
      refine tv_top (b := .inl (nI (σ.2.2.2 2 + 1))) (congrArg Sum.inl (nI_1 _)) ?_
      refine pTC_38 rfl dTC_needs_60 ?_
      refine tv_iconst (v := 1) dTC_needs_63 (by decide) ?_
      exact tv_iret dTC_needs_64 rfl rfl (by show some (Sum.inl (tc_b2 (tc_needs σ t k).1)) = _; rw [e27]; rfl) (by show tc_hC (tc_needs σ t k).2 = _; rw [e27])
    · have d36 : 40 ≤ σ.2.2.2 2 := Nat.not_lt.mp (fun q => c36 (nI_lt (b := 40) q (by omega)))
      have e27 : tc_needs σ t k = (false, σ) := by unfold tc_needs; rw [if_pos (Or.inr d36)]
      refine tv_iconst (v := 0) dTC_needs_39 (by decide) ?_
      exact tv_iret dTC_needs_40 rfl rfl (by show some (Sum.inl (tc_b2 (tc_needs σ t k).1)) = _; rw [e27]; rfl) (by show tc_hC (tc_needs σ t k).2 = _; rw [e27])
set_option maxHeartbeats 4000000 in
set_option maxRecDepth 100000 in
theorem cc_needs_no (σ : tcS) {x y : Int32} (hx : tc_isN x (σ.2.2.2 1) = false ∨ tc_isN y 8 = false) : tc_M yTC_needs cTC_needs 3 (some .boolean) 1 [.inr (some 0), .inl x, .inl y] (tc_hC σ, some (.inl 0), tc_hC σ, 0, 0) := by
  refine tc_met (by decide) (Nat.le_of_ble_eq_true rfl) (Nat.le_refl _) rfl ?_
  refine tv_aload_n dTC_needs_0 rfl rfl ?_
  refine tv_iload_n dTC_needs_1 rfl rfl ?_
  refine tv_callV1r kTC_86 (by decide) (Nat.le_of_ble_eq_true rfl) ⟨rfl, rfl⟩ rfl (cc_isTool σ _) ⟨Nat.zero_le _, Nat.zero_le _⟩ dTC_needs_2 ?_
  refine tv_if_eq (tgt := 15) dTC_needs_5 (by decide) (fun c5 => ?_) (fun c5 => ?_)
  · refine tv_iconst (v := 0) dTC_needs_15 (by decide) ?_
    exact tv_iret dTC_needs_16 rfl rfl rfl rfl
  · have hy : tc_isN y 8 = false := by
      rcases hx with q | q
      · exact absurd (tc_b2_0.mpr q) c5
      · exact q
    refine tv_iload_n dTC_needs_8 rfl rfl ?_
    refine tv_callS1r kTC_82 (by decide) (Nat.le_of_ble_eq_true rfl) ⟨rfl, rfl⟩ (cc_isKind _ _) ⟨Nat.zero_le _, Nat.zero_le _⟩ dTC_needs_9 ?_
    refine tv_if_ne (tgt := 17) dTC_needs_12 (by decide) (fun c12 => absurd (tc_b2_n.mp c12) (by rw [hy]; simp)) (fun c12 => ?_)
    refine tv_iconst (v := 0) dTC_needs_15 (by decide) ?_
    exact tv_iret dTC_needs_16 rfl rfl rfl rfl
set_option maxHeartbeats 4000000 in
set_option maxRecDepth 100000 in
theorem cc_ask (σ : tcS) (hI : tc_I σ) {k : Nat} (hk : k < 8) (v b : Int32) (hb : vp_nar .boolean b = b) : tc_M yTC_ask cTC_ask 4 (some .boolean) 2 [.inr (some 0), .inl (nI k), .inl v, .inl b] (tc_hC σ, some (.inl 1), tc_hC (tc_put σ k v b), 0, 0) := by
  refine tc_met (by decide) (Nat.le_of_ble_eq_true rfl) (Nat.le_of_eq tc_hC_len) rfl ?_
  refine tv_iload_n dTC_ask_0 rfl rfl ?_
  refine tv_callS1r kTC_82 (by decide) (Nat.le_of_ble_eq_true rfl) ⟨rfl, rfl⟩ (cc_isKind _ _) ⟨Nat.zero_le _, Nat.zero_le _⟩ dTC_ask_1 ?_
  refine tv_if_ne (tgt := 9) dTC_ask_4 (by decide) (fun c4 => ?_) (fun c4 => absurd (tc_b2_0.mp c4) (by rw [tc_isN_nI hk (by omega)]; simp))
  refine tv_aload_n dTC_ask_9 rfl rfl ?_
  refine gTC_44 rfl dTC_ask_10 ?_
  refine tv_iload_n dTC_ask_13 rfl rfl ?_
  refine tv_iload_n dTC_ask_14 rfl rfl ?_
  refine tv_iload_n dTC_ask_15 rfl rfl ?_
  refine tv_callN3v kTC_97 (by decide) (Nat.le_of_ble_eq_true rfl) ⟨rfl, rfl⟩ rfl (cc_ak_put σ hI hk v b hb) ⟨Nat.zero_le _, Nat.zero_le _⟩ dTC_ask_16 ?_
  refine tv_iconst (v := 1) dTC_ask_19 (by decide) ?_
  exact tv_iret dTC_ask_20 rfl rfl rfl rfl
set_option maxHeartbeats 4000000 in
set_option maxRecDepth 100000 in
theorem cc_ask_no (σ : tcS) {x : Int32} (hx : tc_isN x 8 = false) (v b : Int32) : tc_M yTC_ask cTC_ask 4 (some .boolean) 2 [.inr (some 0), .inl x, .inl v, .inl b] (tc_hC σ, some (.inl 0), tc_hC σ, 0, 0) := by
  refine tc_met (by decide) (Nat.le_of_ble_eq_true rfl) (Nat.le_refl _) rfl ?_
  refine tv_iload_n dTC_ask_0 rfl rfl ?_
  refine tv_callS1r kTC_82 (by decide) (Nat.le_of_ble_eq_true rfl) ⟨rfl, rfl⟩ (cc_isKind _ _) ⟨Nat.zero_le _, Nat.zero_le _⟩ dTC_ask_1 ?_
  refine tv_if_ne (tgt := 9) dTC_ask_4 (by decide) (fun c4 => absurd (tc_b2_n.mp c4) (by rw [hx]; simp)) (fun c4 => ?_)
  refine tv_iconst (v := 0) dTC_ask_7 (by decide) ?_
  exact tv_iret dTC_ask_8 rfl rfl rfl rfl
set_option maxHeartbeats 4000000 in
set_option maxRecDepth 100000 in
theorem cc_drop (σ : tcS) (hI : tc_I σ) {k : Nat} (hk : k < 8) : tc_M yTC_drop cTC_drop 2 (some .boolean) 2 [.inr (some 0), .inl (nI k)] (tc_hC σ, some (.inl (tc_b2 (tc_rem σ k).1)), tc_hC (tc_rem σ k).2, 0, 0) := by
  refine tc_met (by decide) (Nat.le_of_ble_eq_true rfl) (Nat.le_of_eq tc_hC_len) rfl ?_
  refine tv_iload_n dTC_drop_0 rfl rfl ?_
  refine tv_callS1r kTC_82 (by decide) (Nat.le_of_ble_eq_true rfl) ⟨rfl, rfl⟩ (cc_isKind _ _) ⟨Nat.zero_le _, Nat.zero_le _⟩ dTC_drop_1 ?_
  refine tv_if_eq (tgt := 22) dTC_drop_4 (by decide) (fun c4 => absurd (tc_b2_0.mp c4) (by rw [tc_isN_nI hk (by omega)]; simp)) (fun c4 => ?_)
  refine tv_aload_n dTC_drop_7 rfl rfl ?_
  refine gTC_44 rfl dTC_drop_8 ?_
  refine tv_iload_n dTC_drop_11 rfl rfl ?_
  refine tv_callN1r kTC_101 (by decide) (Nat.le_of_ble_eq_true rfl) ⟨rfl, rfl⟩ rfl (cc_ak_remove σ hI hk) ⟨Nat.zero_le _, Nat.zero_le _⟩ dTC_drop_12 ?_
  refine tv_if_eq (tgt := 22) dTC_drop_15 (by decide) (fun c15 => ?_) (fun c15 => ?_)
  · have hr := tc_rb (tc_b2_0.mp c15)
    refine tv_iconst (v := 0) dTC_drop_22 (by decide) ?_
    exact tv_iret dTC_drop_23 rfl rfl hr rfl
  · have hr := tc_rb (tc_b2_n.mp c15)
    refine tv_iconst (v := 1) dTC_drop_18 (by decide) ?_
    refine tv_goto (tgt := 23) dTC_drop_19 (by decide) ?_
    exact tv_iret dTC_drop_23 rfl rfl hr rfl
set_option maxHeartbeats 4000000 in
set_option maxRecDepth 100000 in
theorem cc_drop_no (σ : tcS) {x : Int32} (hx : tc_isN x 8 = false) : tc_M yTC_drop cTC_drop 2 (some .boolean) 2 [.inr (some 0), .inl x] (tc_hC σ, some (.inl 0), tc_hC σ, 0, 0) := by
  refine tc_met (by decide) (Nat.le_of_ble_eq_true rfl) (Nat.le_refl _) rfl ?_
  refine tv_iload_n dTC_drop_0 rfl rfl ?_
  refine tv_callS1r kTC_82 (by decide) (Nat.le_of_ble_eq_true rfl) ⟨rfl, rfl⟩ (cc_isKind _ _) ⟨Nat.zero_le _, Nat.zero_le _⟩ dTC_drop_1 ?_
  refine tv_if_eq (tgt := 22) dTC_drop_4 (by decide) (fun c4 => ?_) (fun c4 => absurd (tc_b2_0.mpr hx) c4)
  refine tv_iconst (v := 0) dTC_drop_22 (by decide) ?_
  exact tv_iret dTC_drop_23 rfl rfl rfl rfl
set_option maxHeartbeats 4000000 in
set_option maxRecDepth 100000 in
theorem cc_force (σ : tcS) {k : Nat} (hk : k < 8) : tc_M yTC_force cTC_force 3 (some .boolean) 1 [.inr (some 0), .inl (-1), .inl (nI k)] (tc_hC σ, some (.inl 1), tc_hC (tc_s3 σ 0 (va_up (σ.2.2.1 0) k none)), 0, 0) := by
  refine tc_met (by decide) (Nat.le_of_ble_eq_true rfl) (Nat.le_of_eq tc_hC_len) rfl ?_
  refine tv_iload_n dTC_force_0 rfl rfl ?_
  refine tv_iconst (v := -1) dTC_force_1 (by decide) ?_
  refine tv_icmp_ne (tgt := 21) dTC_force_2 (by decide) (fun c2 => absurd rfl c2) (fun c2 => ?_)
  refine tv_iload_n dTC_force_5 rfl rfl ?_
  refine tv_callS1r kTC_82 (by decide) (Nat.le_of_ble_eq_true rfl) ⟨rfl, rfl⟩ (cc_isKind _ _) ⟨Nat.zero_le _, Nat.zero_le _⟩ dTC_force_6 ?_
  refine tv_if_eq (tgt := 21) dTC_force_9 (by decide) (fun c9 => absurd (tc_b2_0.mp c9) (by rw [tc_isN_nI hk (by omega)]; simp)) (fun c9 => ?_)
  refine tv_aload_n dTC_force_12 rfl rfl ?_
  refine gTC_48 rfl dTC_force_13 ?_
  refine tv_iload_n dTC_force_16 rfl rfl ?_
  refine tv_iconst (v := -1) dTC_force_17 (by decide) ?_
  refine stC_12 none dTC_force_18 hk ?_
  refine tv_iconst (v := 1) dTC_force_19 (by decide) ?_
  exact tv_iret dTC_force_20 rfl rfl rfl rfl
set_option maxHeartbeats 4000000 in
set_option maxRecDepth 100000 in
theorem cc_force_t (σ : tcS) (hI : tc_I σ) {t : Nat} (ht : t < σ.2.2.2 1) (y : Int32) : tc_M yTC_force cTC_force 3 (some .boolean) 1 [.inr (some 0), .inl (nI t), .inl y] (tc_hC σ, some (.inl 1), tc_hC (tc_s3 σ 0 (va_up (σ.2.2.1 0) (σ.2.1 0 t) (some t))), 0, 0) := by
  obtain ⟨iP, iT, iN, iA, iR, iK, iO, iQ, iF, iB⟩ := id hI
  refine tc_met (by decide) (Nat.le_of_ble_eq_true rfl) (Nat.le_of_eq tc_hC_len) rfl ?_
  refine tv_iload_n dTC_force_0 rfl rfl ?_
  refine tv_iconst (v := -1) dTC_force_1 (by decide) ?_
  refine tv_icmp_ne (tgt := 21) dTC_force_2 (by decide) (fun c2 => ?_) (fun c2 => absurd ((tc_oI_m1 (o := some t) (fun a q => by cases q; omega)).mp c2) (by simp))
  refine tv_aload_n dTC_force_21 rfl rfl ?_
  refine tv_iload_n dTC_force_22 rfl rfl ?_
  refine tv_callV1r kTC_86 (by decide) (Nat.le_of_ble_eq_true rfl) ⟨rfl, rfl⟩ rfl (cc_isTool σ _) ⟨Nat.zero_le _, Nat.zero_le _⟩ dTC_force_23 ?_
  refine tv_if_ne (tgt := 31) dTC_force_26 (by decide) (fun c26 => ?_) (fun c26 => absurd (tc_b2_0.mp c26) (by rw [tc_isN_nI ht (by omega)]; simp))
  refine tv_aload_n dTC_force_31 rfl rfl ?_
  refine gTC_48 rfl dTC_force_32 ?_
  refine tv_aload_n dTC_force_35 rfl rfl ?_
  refine gTC_17 rfl dTC_force_36 ?_
  refine tv_iload_n dTC_force_39 rfl rfl ?_
  refine ldC_2 dTC_force_40 (by omega) ?_
  refine tv_iload_n dTC_force_41 rfl rfl ?_
  refine stC_12 (some t) dTC_force_42 (iK t ht) ?_
  refine tv_iconst (v := 1) dTC_force_43 (by decide) ?_
  exact tv_iret dTC_force_44 rfl rfl rfl rfl
set_option maxHeartbeats 4000000 in
set_option maxRecDepth 100000 in
theorem cc_force_no (σ : tcS) {x y : Int32} (hx : tc_isN x (σ.2.2.2 1) = false) (hy : x = -1 → tc_isN y 8 = false) : tc_M yTC_force cTC_force 3 (some .boolean) 1 [.inr (some 0), .inl x, .inl y] (tc_hC σ, some (.inl 0), tc_hC σ, 0, 0) := by
  refine tc_met (by decide) (Nat.le_of_ble_eq_true rfl) (Nat.le_refl _) rfl ?_
  refine tv_iload_n dTC_force_0 rfl rfl ?_
  refine tv_iconst (v := -1) dTC_force_1 (by decide) ?_
  refine tv_icmp_ne (tgt := 21) dTC_force_2 (by decide) (fun c2 => ?_) (fun c2 => ?_)
  · refine tv_aload_n dTC_force_21 rfl rfl ?_
    refine tv_iload_n dTC_force_22 rfl rfl ?_
    refine tv_callV1r kTC_86 (by decide) (Nat.le_of_ble_eq_true rfl) ⟨rfl, rfl⟩ rfl (cc_isTool σ _) ⟨Nat.zero_le _, Nat.zero_le _⟩ dTC_force_23 ?_
    refine tv_if_ne (tgt := 31) dTC_force_26 (by decide) (fun c26 => absurd (tc_b2_n.mp c26) (by rw [hx]; simp)) (fun c26 => ?_)
    refine tv_iconst (v := 0) dTC_force_29 (by decide) ?_
    exact tv_iret dTC_force_30 rfl rfl rfl rfl
  · refine tv_iload_n dTC_force_5 rfl rfl ?_
    refine tv_callS1r kTC_82 (by decide) (Nat.le_of_ble_eq_true rfl) ⟨rfl, rfl⟩ (cc_isKind _ _) ⟨Nat.zero_le _, Nat.zero_le _⟩ dTC_force_6 ?_
    refine tv_if_eq (tgt := 21) dTC_force_9 (by decide) (fun c9 => ?_) (fun c9 => absurd (tc_b2_0.mpr (hy c2)) c9)
    refine tv_aload_n dTC_force_21 rfl rfl ?_
    refine tv_iload_n dTC_force_22 rfl rfl ?_
    refine tv_callV1r kTC_86 (by decide) (Nat.le_of_ble_eq_true rfl) ⟨rfl, rfl⟩ rfl (cc_isTool σ _) ⟨Nat.zero_le _, Nat.zero_le _⟩ dTC_force_23 ?_
    refine tv_if_ne (tgt := 31) dTC_force_26 (by decide) (fun c26 => absurd (tc_b2_n.mp c26) (by rw [hx]; simp)) (fun c26 => ?_)
    refine tv_iconst (v := 0) dTC_force_29 (by decide) ?_
    exact tv_iret dTC_force_30 rfl rfl rfl rfl
set_option maxHeartbeats 4000000 in
set_option maxRecDepth 100000 in
theorem cc_chosen (σ : tcS) {k : Nat} (hk : k < 8) : tc_M yTC_chosen cTC_chosen 2 (some .int) 1 [.inr (some 0), .inl (nI k)] (tc_hC σ, some (.inl (tc_oI (σ.2.2.1 1 k))), tc_hC σ, 0, 0) := by
  refine tc_met (by decide) (Nat.le_of_ble_eq_true rfl) (Nat.le_of_eq tc_hC_len) rfl ?_
  refine tv_iload_n dTC_chosen_0 rfl rfl ?_
  refine tv_callS1r kTC_82 (by decide) (Nat.le_of_ble_eq_true rfl) ⟨rfl, rfl⟩ (cc_isKind _ _) ⟨Nat.zero_le _, Nat.zero_le _⟩ dTC_chosen_1 ?_
  refine tv_if_eq (tgt := 16) dTC_chosen_4 (by decide) (fun c4 => absurd (tc_b2_0.mp c4) (by rw [tc_isN_nI hk (by omega)]; simp)) (fun c4 => ?_)
  refine tv_aload_n dTC_chosen_7 rfl rfl ?_
  refine gTC_51 rfl dTC_chosen_8 ?_
  refine tv_iload_n dTC_chosen_11 rfl rfl ?_
  refine ldC_13 dTC_chosen_12 hk ?_
  refine tv_goto (tgt := 17) dTC_chosen_13 (by decide) ?_
  exact tv_iret dTC_chosen_17 rfl rfl rfl rfl
set_option maxHeartbeats 4000000 in
set_option maxRecDepth 100000 in
theorem cc_chosen_no (σ : tcS) {x : Int32} (hx : tc_isN x 8 = false) : tc_M yTC_chosen cTC_chosen 2 (some .int) 1 [.inr (some 0), .inl x] (tc_hC σ, some (.inl (-1)), tc_hC σ, 0, 0) := by
  refine tc_met (by decide) (Nat.le_of_ble_eq_true rfl) (Nat.le_refl _) rfl ?_
  refine tv_iload_n dTC_chosen_0 rfl rfl ?_
  refine tv_callS1r kTC_82 (by decide) (Nat.le_of_ble_eq_true rfl) ⟨rfl, rfl⟩ (cc_isKind _ _) ⟨Nat.zero_le _, Nat.zero_le _⟩ dTC_chosen_1 ?_
  refine tv_if_eq (tgt := 16) dTC_chosen_4 (by decide) (fun c4 => ?_) (fun c4 => absurd (tc_b2_0.mpr hx) c4)
  refine tv_iconst (v := -1) dTC_chosen_16 (by decide) ?_
  exact tv_iret dTC_chosen_17 rfl rfl rfl rfl
set_option maxHeartbeats 4000000 in
set_option maxRecDepth 100000 in
theorem cc_rows (σ : tcS) : tc_M yTC_rows cTC_rows 1 (some .int) 1 [.inr (some 0)] (tc_hC σ, some (.inl (nI (σ.2.2.2 4))), tc_hC σ, 0, 0) := by
  refine tc_met (by decide) (Nat.le_of_ble_eq_true rfl) (Nat.le_of_eq tc_hC_len) rfl ?_
  refine tv_aload_n dTC_rows_0 rfl rfl ?_
  refine gTC_57 rfl dTC_rows_1 ?_
  refine tv_callN0r kTC_116 (by decide) (Nat.le_of_ble_eq_true rfl) ⟨rfl, rfl⟩ rfl (cc_rl_size σ) ⟨Nat.zero_le _, Nat.zero_le _⟩ dTC_rows_4 ?_
  exact tv_iret dTC_rows_7 rfl rfl rfl rfl
set_option maxHeartbeats 4000000 in
set_option maxRecDepth 100000 in
theorem cc_row (σ : tcS) (hI : tc_I σ) (i w : Int32) : tc_M yTC_row cTC_row 3 (some .int) 1 [.inr (some 0), .inl i, .inl w] (tc_hC σ, some (.inl (tc_cell σ i w)), tc_hC σ, 0, 0) := by
  refine tc_met (by decide) (Nat.le_of_ble_eq_true rfl) (Nat.le_of_eq tc_hC_len) rfl ?_
  refine tv_aload_n dTC_row_0 rfl rfl ?_
  refine gTC_57 rfl dTC_row_1 ?_
  refine tv_iload_n dTC_row_4 rfl rfl ?_
  refine tv_iload_n dTC_row_5 rfl rfl ?_
  refine tv_callN2r kTC_120 (by decide) (Nat.le_of_ble_eq_true rfl) ⟨rfl, rfl⟩ rfl (cc_rl_cell σ hI i w) ⟨Nat.zero_le _, Nat.zero_le _⟩ dTC_row_6 ?_
  exact tv_iret dTC_row_9 rfl rfl rfl rfl
set_option maxHeartbeats 4000000 in
set_option maxRecDepth 100000 in
theorem cc_built (σ : tcS) (hI : tc_I σ) {t p : Nat} (ht : t < σ.2.2.2 1) (hp : p < σ.2.2.2 0) : tc_M yTC_built cTC_built 3 (some .boolean) 4 [.inr (some 0), .inl (nI t), .inl (nI p)] (tc_hC σ, some (.inl (tc_b2 (bt ((tc_settle σ).1 7 t) p))), tc_hC (tc_settle σ), 0, 0) := by
  obtain ⟨iP, iT, iN, iA, iR, iK, iO, iQ, iF, iB⟩ := id hI
  refine tc_met (by decide) (Nat.le_of_ble_eq_true rfl) (Nat.le_of_eq tc_hC_len) rfl ?_
  refine tv_aload_n dTC_built_0 rfl rfl ?_
  refine tv_iload_n dTC_built_1 rfl rfl ?_
  refine tv_callV1r kTC_86 (by decide) (Nat.le_of_ble_eq_true rfl) ⟨rfl, rfl⟩ rfl (cc_isTool σ _) ⟨Nat.zero_le _, Nat.zero_le _⟩ dTC_built_2 ?_
  refine tv_if_eq (tgt := 16) dTC_built_5 (by decide) (fun c5 => absurd (tc_b2_0.mp c5) (by rw [tc_isN_nI ht (by omega)]; simp)) (fun c5 => ?_)
  refine tv_aload_n dTC_built_8 rfl rfl ?_
  refine tv_iload_n dTC_built_9 rfl rfl ?_
  refine tv_callV1r kTC_104 (by decide) (Nat.le_of_ble_eq_true rfl) ⟨rfl, rfl⟩ rfl (cc_isPlatform σ _) ⟨Nat.zero_le _, Nat.zero_le _⟩ dTC_built_10 ?_
  refine tv_if_ne (tgt := 18) dTC_built_13 (by decide) (fun c13 => ?_) (fun c13 => absurd (tc_b2_0.mp c13) (by rw [tc_isN_nI hp (by omega)]; simp))
  refine tv_aload_n dTC_built_18 rfl rfl ?_
  refine tv_callV0v kTC_107 (by decide) (Nat.le_of_ble_eq_true rfl) ⟨rfl, rfl⟩ rfl (cc_settleBuilt σ hI) ⟨Nat.zero_le _, Nat.zero_le _⟩ dTC_built_19 ?_
  refine tv_aload_n dTC_built_22 rfl rfl ?_
  refine gTC_67 rfl dTC_built_23 ?_
  refine tv_iload_n dTC_built_26 rfl rfl ?_
  refine ldC_18 dTC_built_27 (by omega) ?_
  refine tv_iload_n dTC_built_28 rfl rfl ?_
  refine tv_callS2r kTC_93 (by decide) (Nat.le_of_ble_eq_true rfl) ⟨rfl, rfl⟩ (cc_hasBit _ _ (by omega)) ⟨Nat.zero_le _, Nat.zero_le _⟩ dTC_built_29 ?_
  exact tv_iret dTC_built_32 rfl (by cases bt ((tc_settle σ).1 7 t) p <;> rfl) rfl rfl
set_option maxHeartbeats 4000000 in
set_option maxRecDepth 100000 in
theorem cc_built_no (σ : tcS) {x y : Int32} (hx : tc_isN x (σ.2.2.2 1) = false ∨ tc_isN y (σ.2.2.2 0) = false) : tc_M yTC_built cTC_built 3 (some .boolean) 4 [.inr (some 0), .inl x, .inl y] (tc_hC σ, some (.inl 0), tc_hC σ, 0, 0) := by
  refine tc_met (by decide) (Nat.le_of_ble_eq_true rfl) (Nat.le_refl _) rfl ?_
  refine tv_aload_n dTC_built_0 rfl rfl ?_
  refine tv_iload_n dTC_built_1 rfl rfl ?_
  refine tv_callV1r kTC_86 (by decide) (Nat.le_of_ble_eq_true rfl) ⟨rfl, rfl⟩ rfl (cc_isTool σ _) ⟨Nat.zero_le _, Nat.zero_le _⟩ dTC_built_2 ?_
  refine tv_if_eq (tgt := 16) dTC_built_5 (by decide) (fun c5 => ?_) (fun c5 => ?_)
  · refine tv_iconst (v := 0) dTC_built_16 (by decide) ?_
    exact tv_iret dTC_built_17 rfl rfl rfl rfl
  · have hy : tc_isN y (σ.2.2.2 0) = false := by
      rcases hx with q | q
      · exact absurd (tc_b2_0.mpr q) c5
      · exact q
    refine tv_aload_n dTC_built_8 rfl rfl ?_
    refine tv_iload_n dTC_built_9 rfl rfl ?_
    refine tv_callV1r kTC_104 (by decide) (Nat.le_of_ble_eq_true rfl) ⟨rfl, rfl⟩ rfl (cc_isPlatform σ _) ⟨Nat.zero_le _, Nat.zero_le _⟩ dTC_built_10 ?_
    refine tv_if_ne (tgt := 18) dTC_built_13 (by decide) (fun c13 => absurd (tc_b2_n.mp c13) (by rw [hy]; simp)) (fun c13 => ?_)
    refine tv_iconst (v := 0) dTC_built_16 (by decide) ?_
    exact tv_iret dTC_built_17 rfl rfl rfl rfl
set_option maxHeartbeats 4000000 in
set_option maxRecDepth 100000 in
theorem cl_ring_12 (σ : tcS) (hI : tc_I σ) (i : Int32) {K : tcK} : ∀ (n : Nat) (t b : Nat), t + n = σ.2.2.2 1 → b ≤ t → K.2.1 = some (.inl (tc_ringF σ i n t b)) → K.2.2.1 = tc_hC σ → tc_V (cTC_ring, 4, yTC_ring.cls, some .int, 4, yTC_ring.name) K 0 0 (tc_hC σ) 12 [some (.inr (some 0)), some (.inl i), some (.inl (nI b)), some (.inl (nI t))] [] := by
  intro n
  induction n with
  | zero =>
    intro t b ht hb hr hh
    obtain ⟨iP, iT, iN, iA, iR, iK, iO, iQ, iF, iB⟩ := id hI
    refine tv_iload_n dTC_ring_12 rfl rfl ?_
    refine tv_aload_n dTC_ring_13 rfl rfl ?_
    refine gTC_35 rfl dTC_ring_14 ?_
    refine tv_icmp_ge (tgt := 49) dTC_ring_17 (by decide) (fun c17 => ?_) (fun c17 => absurd (nI_le (by omega) (by omega)) c17)
    refine tv_iconst (v := -1) dTC_ring_49 (by decide) ?_
    exact tv_iret dTC_ring_50 rfl rfl hr hh
  | succ n ih =>
    intro t b ht hb hr hh
    obtain ⟨iP, iT, iN, iA, iR, iK, iO, iQ, iF, iB⟩ := id hI
    refine tv_iload_n dTC_ring_12 rfl rfl ?_
    refine tv_aload_n dTC_ring_13 rfl rfl ?_
    refine gTC_35 rfl dTC_ring_14 ?_
    refine tv_icmp_ge (tgt := 49) dTC_ring_17 (by decide) (fun c17 => absurd c17 (nI_ge (by omega) (by omega))) (fun c17 => ?_)
    refine tv_aload_n dTC_ring_20 rfl rfl ?_
    refine gTC_73 rfl dTC_ring_21 ?_
    refine tv_iload_n dTC_ring_24 rfl rfl ?_
    refine ldC_20 dTC_ring_25 (by omega) ?_
    refine tv_iload_n dTC_ring_26 rfl rfl ?_
    refine tv_callS2r kTC_93 (by decide) (Nat.le_of_ble_eq_true rfl) ⟨rfl, rfl⟩ (cc_hasBit _ _ (by omega)) ⟨Nat.zero_le _, Nat.zero_le _⟩ dTC_ring_27 ?_
    refine tv_if_eq (tgt := 43) dTC_ring_30 (by decide) (fun c30 => ?_) (fun c30 => ?_)
    · have h9 := ih (t + 1) b (by omega) (by omega) (by rw [hr, tc_ringF, if_neg (by rw [tc_b2_0.mp c30]; simp)]) hh
      refine tv_iinc_3 dTC_ring_43 (by decide) (nI_1 t) ?_
      refine tv_goto (tgt := 12) dTC_ring_46 (by decide) ?_
      exact h9
    · refine tv_iload_n dTC_ring_33 rfl rfl ?_
      refine tv_iload_n dTC_ring_34 rfl rfl ?_
      refine tv_icmp_ne (tgt := 40) dTC_ring_35 (by decide) (fun c35 => ?_) (fun c35 => ?_)
      · have h9 := ih (t + 1) (b + 1) (by omega) (by omega) (by rw [hr, tc_ringF, if_pos (tc_b2_n.mp c30), if_neg c35]) hh
        refine tv_iinc_2 dTC_ring_40 (by decide) (nI_1 b) ?_
        refine tv_iinc_3 dTC_ring_43 (by decide) (nI_1 t) ?_
        refine tv_goto (tgt := 12) dTC_ring_46 (by decide) ?_
        exact h9
      · have e35 := show tc_ringF σ i (n + 1) t b = nI t by rw [tc_ringF, if_pos (tc_b2_n.mp c30), if_pos c35]
        refine tv_iload_n dTC_ring_38 rfl rfl ?_
        exact tv_iret dTC_ring_39 rfl rfl (by rw [hr, e35]) hh
set_option maxHeartbeats 4000000 in
set_option maxRecDepth 100000 in
theorem cc_ring (σ : tcS) (hI : tc_I σ) (i : Int32) : tc_M yTC_ring cTC_ring 4 (some .int) 4 [.inr (some 0), .inl i] (tc_hC σ, some (.inl (tc_ringF (tc_leads (tc_settle σ)) i (σ.2.2.2 1) 0 0)), tc_hC (tc_leads (tc_settle σ)), 0, 0) := by
  have hI1 : tc_I (tc_settle σ) := tc_I_of hI (tc_settle_k σ).1 (tc_settle_k σ).2
  have hI2 : tc_I (tc_leads (tc_settle σ)) := tc_I_of hI1 (tc_leads_k _).1 (tc_leads_k _).2
  refine tc_met (by decide) (Nat.le_of_ble_eq_true rfl) (Nat.le_of_eq tc_hC_len) rfl ?_
  refine tv_aload_n dTC_ring_0 rfl rfl ?_
  refine tv_callV0v kTC_107 (by decide) (Nat.le_of_ble_eq_true rfl) ⟨rfl, rfl⟩ rfl (cc_settleBuilt σ hI) ⟨Nat.zero_le _, Nat.zero_le _⟩ dTC_ring_1 ?_
  refine tv_aload_n dTC_ring_4 rfl rfl ?_
  refine tv_callV0v kTC_124 (by decide) (Nat.le_of_ble_eq_true rfl) ⟨rfl, rfl⟩ rfl (cc_settleLeads (tc_settle σ) hI1) ⟨Nat.zero_le _, Nat.zero_le _⟩ dTC_ring_5 ?_
  refine tv_iconst (v := 0) dTC_ring_8 (by decide) ?_
  refine tv_istN_2 dTC_ring_9 (by decide) ?_
  refine tv_iconst (v := 0) dTC_ring_10 (by decide) ?_
  refine tv_istN_3 dTC_ring_11 (by decide) ?_
  exact cl_ring_12 _ hI2 i (σ.2.2.2 1) 0 0 (by rw [(tc_leads_k _).1, (tc_settle_k σ).1]; omega) (Nat.le_refl _) rfl rfl
end
section
/-! BUILT: the least ones, and that the class works them out -/
def bw_cl (T P : Nat) (R Mk nd : Nat → Nat → Bool) (kd : Nat → Nat) (S : Nat → Nat → Prop) : Prop :=
  ∀ t p, t < T → p < P → R t p = true → (∀ k, k < 8 → nd t k = true → ∃ u q, u < T ∧ q < P ∧ kd u = k ∧ Mk u p = true ∧ S u q) → S t p
def bw_B (T P : Nat) (R Mk nd : Nat → Nat → Bool) (kd : Nat → Nat) (t p : Nat) : Prop := t < T ∧ p < P ∧ ∀ S : Nat → Nat → Prop, bw_cl T P R Mk nd kd S → S t p
theorem bw_step {T P : Nat} {R Mk nd : Nat → Nat → Bool} {kd : Nat → Nat} {t p : Nat} (ht : t < T) (hp : p < P) (hR : R t p = true) (h : ∀ k, k < 8 → nd t k = true → ∃ u q, u < T ∧ q < P ∧ kd u = k ∧ Mk u p = true ∧ bw_B T P R Mk nd kd u q) : bw_B T P R Mk nd kd t p := by
  refine ⟨ht, hp, fun S hS => hS t p ht hp hR (fun k hk hn => ?_)⟩
  obtain ⟨u, q, h1, h2, h3, h4, h5⟩ := h k hk hn
  exact ⟨u, q, h1, h2, h3, h4, h5.2.2 S hS⟩
/-- BUILT by the class's own tables -/
def tc_bw (σ : tcS) (t p : Nat) : Prop := bw_B (σ.2.2.2 1) (σ.2.2.2 0) (fun t p => tc_fit (σ.1 1 t) (σ.1 0 p)) (fun t p => tc_fit (σ.1 2 t) (σ.1 0 p)) (fun t k => bt (σ.1 4 t) k) (σ.2.1 0) t p
theorem tc_pws_bt {r nk : Int32} {sup : Nat → Int32} {p : Nat} : ∀ (n : Nat), bt (tc_pws r nk sup n) p = true ↔ bt r p = true ∧ ∀ k, k < n → bt nk k = true → bt (sup k) p = true
  | 0 => by
    refine ⟨fun h => ⟨h, fun k hk => absurd hk (by omega)⟩, fun h => h.1⟩
  | n + 1 => by
    have ih := tc_pws_bt (r := r) (nk := nk) (sup := sup) (p := p) n
    cases e : bt nk n
    · rw [tc_pws_no e, ih]
      refine ⟨fun h => ⟨h.1, fun k hk hn => ?_⟩, fun h => ⟨h.1, fun k hk hn => h.2 k (by omega) hn⟩⟩
      rcases Nat.lt_or_ge k n with q | q
      · exact h.2 k q hn
      · have : k = n := by omega
        subst this
        rw [e] at hn
        cases hn
    · rw [tc_pws_yes e, b_and, Bool.and_eq_true, ih]
      refine ⟨fun h => ⟨h.1.1, fun k hk hn => ?_⟩, fun h => ⟨⟨h.1, fun k hk hn => h.2 k (by omega) hn⟩, h.2 n (by omega) e⟩⟩
      rcases Nat.lt_or_ge k n with q | q
      · exact h.1.2 k q hn
      · have : k = n := by omega
        subst this
        exact h.2
theorem tc_bt_lt {x : Int32} {i : Nat} (h : bt x i = true) : i < 32 := by
  rcases Nat.lt_or_ge i 32 with q | q
  · exact q
  · rw [b_big q] at h
    cases h
theorem tc_nz {x : Int32} : ¬ x = 0 ↔ ∃ i, bt x i = true := by
  constructor
  · intro h
    refine Classical.byContradiction (fun q => h (tc_z.mpr (fun i _ => ?_)))
    cases e : bt x i
    · rfl
    · exact absurd ⟨i, e⟩ q
  · intro ⟨i, hi⟩ h
    rw [h, b_0] at hi
    cases hi
/-- the class's tables while it works the built ones out -/
def tc_J (σ ρ : tcS) : Prop := ρ.2 = σ.2 ∧ ρ.1 4 = σ.1 4 ∧
  (∀ t p, t < σ.2.2.2 1 → (bt (ρ.1 5 t) p = true ↔ p < σ.2.2.2 0 ∧ tc_fit (σ.1 1 t) (σ.1 0 p) = true)) ∧
  (∀ t p, t < σ.2.2.2 1 → (bt (ρ.1 6 t) p = true ↔ p < σ.2.2.2 0 ∧ tc_fit (σ.1 2 t) (σ.1 0 p) = true)) ∧
  (∀ t p, t < σ.2.2.2 1 → bt (ρ.1 7 t) p = true → tc_bw σ t p) ∧
  (∀ k p, k < 8 → bt (ρ.1 8 k) p = true → ∃ u q, u < σ.2.2.2 1 ∧ q < σ.2.2.2 0 ∧ σ.2.1 0 u = k ∧ tc_fit (σ.1 2 u) (σ.1 0 p) = true ∧ tc_bw σ u q) ∧
  (∀ u p, u < σ.2.2.2 1 → ¬ ρ.1 7 u = 0 → bt (ρ.1 6 u) p = true → bt (ρ.1 8 (σ.2.1 0 u)) p = true) ∧
  (∀ t p, t < σ.2.2.2 1 → bt (ρ.1 7 t) p = true → bt (tc_pws (ρ.1 5 t) (ρ.1 4 t) (ρ.1 8) 8) p = true)
/-- no pass changes it -/
def tc_fix (σ ρ : tcS) : Prop := ∀ t, t < σ.2.2.2 1 → tc_pws (ρ.1 5 t) (ρ.1 4 t) (ρ.1 8) 8 = ρ.1 7 t
theorem tc_J_end {σ ρ : tcS} (hJ : tc_J σ ρ) (hF : tc_fix σ ρ) {t p : Nat} (ht : t < σ.2.2.2 1) : bt (ρ.1 7 t) p = true ↔ tc_bw σ t p := by
  obtain ⟨j1, j2, j3, j4, j5, j6, j7, j8⟩ := hJ
  refine ⟨j5 t p ht, fun h => h.2.2 (fun t p => bt (ρ.1 7 t) p = true) ?_⟩
  intro t p ht hp hR hk
  rw [← hF t ht, tc_pws_bt]
  refine ⟨(j3 t p ht).mpr ⟨hp, hR⟩, fun k hk8 hn => ?_⟩
  rw [j2] at hn
  obtain ⟨u, q, hu, hq, hku, hM, hS⟩ := hk k hk8 hn
  have := j7 u p hu (tc_nz.mpr ⟨q, hS⟩) ((j4 u p hu).mpr ⟨hp, hM⟩)
  rw [hku] at this
  exact this
theorem tc_upd_s {f : Nat → Int32} {k : Nat} {x : Int32} : upd f k x k = x := by simp [upd]
theorem tc_upd_n {f : Nat → Int32} {k j : Nat} {x : Int32} (h : j ≠ k) : upd f k x j = f j := by simp [upd, h]
/-- pws grows with the supplies -/
theorem tc_pws_mono {r nk : Int32} {s1 s2 : Nat → Int32} {n p : Nat} (h : ∀ k, bt (s1 k) p = true → bt (s2 k) p = true) (h1 : bt (tc_pws r nk s1 n) p = true) : bt (tc_pws r nk s2 n) p = true := by
  rw [tc_pws_bt] at h1 ⊢
  exact ⟨h1.1, fun k hk hn => h k (h1.2 k hk hn)⟩
/-- one tool's turn -/
theorem tc_gs_J {σ ρ : tcS} (hK : ∀ t, t < σ.2.2.2 1 → σ.2.1 0 t < 8) (hJ : tc_J σ ρ) {t : Nat} (ht : t < σ.2.2.2 1) (hne : ¬ tc_pws (ρ.1 5 t) (ρ.1 4 t) (ρ.1 8) 8 = ρ.1 7 t) : tc_J σ (tc_gs t ρ) ∧ ¬ tc_pws (ρ.1 5 t) (ρ.1 4 t) (ρ.1 8) 8 = 0 := by
  obtain ⟨j1, j2, j3, j4, j5, j6, j7, j8⟩ := hJ
  have hkd : ρ.2.1 0 t = σ.2.1 0 t := by rw [j1]
  have hnz : ¬ tc_pws (ρ.1 5 t) (ρ.1 4 t) (ρ.1 8) 8 = 0 := by
    intro h0
    refine hne ?_
    rw [h0]
    refine (tc_z.mpr (fun i _ => ?_)).symm
    cases e : bt (ρ.1 7 t) i
    · rfl
    · have := j8 t i ht e
      rw [h0, b_0] at this
      cases this
  have hbw : ∀ p, bt (tc_pws (ρ.1 5 t) (ρ.1 4 t) (ρ.1 8) 8) p = true → tc_bw σ t p := by
    intro p hp
    rw [tc_pws_bt] at hp
    obtain ⟨h1, h2⟩ := hp
    obtain ⟨h3, h4⟩ := (j3 t p ht).mp h1
    refine bw_step ht h3 h4 (fun k hk hn => ?_)
    have h5 := h2 k hk (by rw [j2]; exact hn)
    obtain ⟨u, q, a1, a2, a3, a4, a5⟩ := j6 k p hk h5
    exact ⟨u, q, a1, a2, a3, a4, a5⟩
  -- the new supplies
  have hsup : ∀ k p, bt (upd (ρ.1 8) (ρ.2.1 0 t) (ρ.1 8 (ρ.2.1 0 t) ||| ρ.1 6 t) k) p = true ↔ bt (ρ.1 8 k) p = true ∨ (k = σ.2.1 0 t ∧ bt (ρ.1 6 t) p = true) := by
    intro k p
    rw [hkd]
    by_cases hk : k = σ.2.1 0 t
    · subst hk
      rw [tc_upd_s, b_or, Bool.or_eq_true]
      simp
    · rw [tc_upd_n hk]
      simp [hk]
  refine ⟨⟨j1, j2, j3, j4, ?_, ?_, ?_, ?_⟩, hnz⟩
  · intro u p hu hb
    have hb : bt (upd (ρ.1 7) t (tc_pws (ρ.1 5 t) (ρ.1 4 t) (ρ.1 8) 8) u) p = true := hb
    by_cases h : u = t
    · subst h
      rw [tc_upd_s] at hb
      exact hbw p hb
    · rw [tc_upd_n h] at hb
      exact j5 u p hu hb
  · intro k p hk hb
    have hb : bt (upd (ρ.1 8) (ρ.2.1 0 t) (ρ.1 8 (ρ.2.1 0 t) ||| ρ.1 6 t) k) p = true := hb
    rcases (hsup k p).mp hb with q | q
    · exact j6 k p hk q
    · obtain ⟨i, hi⟩ := tc_nz.mp hnz
      have h1 := hbw i hi
      exact ⟨t, i, ht, h1.2.1, q.1.symm, ((j4 t p ht).mp q.2).2, h1⟩
  · intro u p hu hz hm
    show bt (upd (ρ.1 8) (ρ.2.1 0 t) (ρ.1 8 (ρ.2.1 0 t) ||| ρ.1 6 t) (σ.2.1 0 u)) p = true
    rw [hsup]
    have hz : ¬ upd (ρ.1 7) t (tc_pws (ρ.1 5 t) (ρ.1 4 t) (ρ.1 8) 8) u = 0 := hz
    have hm : bt (ρ.1 6 u) p = true := hm
    by_cases h : u = t
    · subst h
      exact Or.inr ⟨rfl, hm⟩
    · rw [tc_upd_n h] at hz
      exact Or.inl (j7 u p hu hz hm)
  · intro u p hu hb
    have hb : bt (upd (ρ.1 7) t (tc_pws (ρ.1 5 t) (ρ.1 4 t) (ρ.1 8) 8) u) p = true := hb
    refine tc_pws_mono (s1 := ρ.1 8) (fun k hk => (hsup k p).mpr (Or.inl hk)) ?_
    show bt (tc_pws (ρ.1 5 u) (ρ.1 4 u) (ρ.1 8) 8) p = true
    by_cases h : u = t
    · subst h
      rw [tc_upd_s] at hb
      exact hb
    · rw [tc_upd_n h] at hb
      exact j8 u p hu hb
/-- how many tools of the first n are not built anywhere -/
def tc_Z (ρ : tcS) : Nat → Nat
  | 0 => 0
  | n + 1 => tc_Z ρ n + (if ρ.1 7 n = 0 then 1 else 0)
theorem tc_Z_le (ρ : tcS) : ∀ n, tc_Z ρ n ≤ n
  | 0 => Nat.le_refl _
  | n + 1 => by
    have := tc_Z_le ρ n
    unfold tc_Z
    split <;> omega
theorem tc_Z_mono {ρ τ : tcS} : ∀ {n : Nat}, (∀ t, t < n → ¬ ρ.1 7 t = 0 → ¬ τ.1 7 t = 0) → tc_Z τ n ≤ tc_Z ρ n
  | 0, _ => Nat.le_refl _
  | n + 1, h => by
    have ih := tc_Z_mono (n := n) (fun t ht => h t (by omega))
    have h1 := h n (by omega)
    unfold tc_Z
    by_cases q : ρ.1 7 n = 0
    · rw [if_pos q]
      split <;> omega
    · rw [if_neg q, if_neg (h1 q)]
      omega
theorem tc_Z_lt {ρ τ : tcS} : ∀ {n u : Nat}, u < n → (∀ t, t < n → ¬ ρ.1 7 t = 0 → ¬ τ.1 7 t = 0) → ρ.1 7 u = 0 → ¬ τ.1 7 u = 0 → tc_Z τ n < tc_Z ρ n
  | 0, u, hu, _, _, _ => absurd hu (by omega)
  | n + 1, u, hu, h, h1, h2 => by
    unfold tc_Z
    by_cases q : u = n
    · subst q
      have := tc_Z_mono (n := u) (fun t ht => h t (by omega))
      rw [if_pos h1, if_neg h2]
      omega
    · have ih := tc_Z_lt (n := n) (u := u) (by omega) (fun t ht => h t (by omega)) h1 h2
      have h3 := h n (by omega)
      by_cases q2 : ρ.1 7 n = 0
      · rw [if_pos q2]
        split <;> omega
      · rw [if_neg q2, if_neg (h3 q2)]
        omega
/-- a pass from tool t on: J stays; and either a tool is built that wasn't, or all is settled -/
theorem tc_grow_J {σ : tcS} (hK : ∀ t, t < σ.2.2.2 1 → σ.2.1 0 t < 8) : ∀ (n t : Nat) (a : tcS × Bool), t + n = σ.2.2.2 1 → tc_J σ a.1 →
    tc_J σ (tc_up tc_gb n t a).1 ∧ (∀ u, u < σ.2.2.2 1 → ¬ a.1.1 7 u = 0 → ¬ (tc_up tc_gb n t a).1.1 7 u = 0) ∧
    ((∃ u, u < σ.2.2.2 1 ∧ a.1.1 7 u = 0 ∧ ¬ (tc_up tc_gb n t a).1.1 7 u = 0) ∨ ((∀ u, u < t → tc_pws (a.1.1 5 u) (a.1.1 4 u) (a.1.1 8) 8 = a.1.1 7 u) → tc_fix σ (tc_up tc_gb n t a).1)) ∧
    ((tc_up tc_gb n t a).2 = false → tc_up tc_gb n t a = a ∧ ∀ u, t ≤ u → u < σ.2.2.2 1 → tc_pws (a.1.1 5 u) (a.1.1 4 u) (a.1.1 8) 8 = a.1.1 7 u)
  | 0, t, a, h, hJ => by
    refine ⟨hJ, fun u _ q => q, Or.inr (fun q u hu => q u (by omega)), fun _ => ⟨rfl, fun u h1 h2 => absurd h2 (by omega)⟩⟩
  | n + 1, t, a, h, hJ => by
    show tc_J σ (tc_up tc_gb n (t + 1) (tc_gb t a)).1 ∧ (∀ u, u < σ.2.2.2 1 → ¬ a.1.1 7 u = 0 → ¬ (tc_up tc_gb n (t + 1) (tc_gb t a)).1.1 7 u = 0) ∧
      ((∃ u, u < σ.2.2.2 1 ∧ a.1.1 7 u = 0 ∧ ¬ (tc_up tc_gb n (t + 1) (tc_gb t a)).1.1 7 u = 0) ∨ ((∀ u, u < t → tc_pws (a.1.1 5 u) (a.1.1 4 u) (a.1.1 8) 8 = a.1.1 7 u) → tc_fix σ (tc_up tc_gb n (t + 1) (tc_gb t a)).1)) ∧
      ((tc_up tc_gb n (t + 1) (tc_gb t a)).2 = false → tc_up tc_gb n (t + 1) (tc_gb t a) = a ∧ ∀ u, t ≤ u → u < σ.2.2.2 1 → tc_pws (a.1.1 5 u) (a.1.1 4 u) (a.1.1 8) 8 = a.1.1 7 u)
    by_cases e : tc_pws (a.1.1 5 t) (a.1.1 4 t) (a.1.1 8) 8 = a.1.1 7 t
    · rw [tc_gb_eq e]
      obtain ⟨i1, i2, i3, i4⟩ := tc_grow_J hK n (t + 1) a (by omega) hJ
      refine ⟨i1, i2, ?_, fun q => ⟨(i4 q).1, fun u h1 h2 => ?_⟩⟩
      · rcases i3 with q | q
        · exact Or.inl q
        · refine Or.inr (fun h1 => q (fun u hu => ?_))
          by_cases h2 : u = t
          · rw [h2]
            exact e
          · exact h1 u (by omega)
      · by_cases h3 : u = t
        · rw [h3]
          exact e
        · exact (i4 q).2 u (by omega) h2
    · rw [tc_gb_ne e]
      have ht : t < σ.2.2.2 1 := by omega
      obtain ⟨hJ2, hnz⟩ := tc_gs_J hK hJ ht e
      obtain ⟨i1, i2, i3, i4⟩ := tc_grow_J hK n (t + 1) (tc_gs t a.1, true) (by omega) hJ2
      have hst : ∀ u, ¬ a.1.1 7 u = 0 → ¬ (tc_gs t a.1).1 7 u = 0 := by
        intro u hu
        show ¬ upd (a.1.1 7) t (tc_pws (a.1.1 5 t) (a.1.1 4 t) (a.1.1 8) 8) u = 0
        by_cases q : u = t
        · rw [q, tc_upd_s]
          exact hnz
        · rw [tc_upd_n q]
          exact hu
      have hgt : (tc_gs t a.1).1 7 t = tc_pws (a.1.1 5 t) (a.1.1 4 t) (a.1.1 8) 8 := tc_upd_s
      have htrue : (tc_up tc_gb n (t + 1) (tc_gs t a.1, true)).2 = true := by
        have key : ∀ (n t : Nat) (b : tcS × Bool), b.2 = true → (tc_up tc_gb n t b).2 = true := by
          intro n
          induction n with
          | zero => intro t b hb; exact hb
          | succ n ih =>
            intro t b hb
            refine ih (t + 1) (tc_gb t b) ?_
            unfold tc_gb
            split
            · exact hb
            · rfl
        exact key n (t + 1) _ rfl
      refine ⟨i1, fun u hu q => i2 u hu (hst u q), ?_, fun q => by rw [htrue] at q; cases q⟩
      by_cases hz : a.1.1 7 t = 0
      · exact Or.inl ⟨t, ht, hz, i2 t ht (by rw [hgt]; exact hnz)⟩
      · rcases i3 with ⟨u, hu, h1, h2⟩ | q
        · refine Or.inl ⟨u, hu, ?_, h2⟩
          refine Classical.byContradiction (fun q => hst u q h1)
        · refine Or.inr (fun hpre => q (fun u hu => ?_))
          have hs8 : (tc_gs t a.1).1 8 = a.1.1 8 := by
            show upd (a.1.1 8) (a.1.2.1 0 t) (a.1.1 8 (a.1.2.1 0 t) ||| a.1.1 6 t) = a.1.1 8
            have e8 : a.1.1 8 (a.1.2.1 0 t) ||| a.1.1 6 t = a.1.1 8 (a.1.2.1 0 t) := by
              refine b_ext (fun i hi => ?_)
              rw [b_or]
              cases e6 : bt (a.1.1 6 t) i
              · simp
              · have := hJ.2.2.2.2.2.2.1 t i ht hz e6
                rw [← hJ.1] at this
                rw [this]
                rfl
            rw [e8]
            funext j
            by_cases q : j = a.1.2.1 0 t
            · rw [q, tc_upd_s]
            · rw [tc_upd_n q]
          show tc_pws (a.1.1 5 u) (a.1.1 4 u) ((tc_gs t a.1).1 8) 8 = (tc_gs t a.1).1 7 u
          rw [hs8]
          by_cases q : u = t
          · rw [q, hgt]
          · show _ = upd (a.1.1 7) t (tc_pws (a.1.1 5 t) (a.1.1 4 t) (a.1.1 8) 8) u
            rw [tc_upd_n q]
            exact hpre u (by omega)
theorem tc_fix_grow {σ ρ : tcS} (hJ : tc_J σ ρ) (hF : tc_fix σ ρ) : tc_grow ρ = (ρ, false) := by
  have key : ∀ (n t : Nat), t + n = σ.2.2.2 1 → tc_up tc_gb n t (ρ, false) = (ρ, false) := by
    intro n
    induction n with
    | zero => intro t _; rfl
    | succ n ih =>
      intro t ht
      show tc_up tc_gb n (t + 1) (tc_gb t (ρ, false)) = _
      have e := tc_gb_eq (t := t) (a := (ρ, false)) (hF t (by omega))
      rw [e]
      exact ih (t + 1) (by omega)
  have hT : ρ.2.2.2 1 = σ.2.2.2 1 := by rw [hJ.1]
  unfold tc_grow
  exact key (ρ.2.2.2 1) 0 (by omega)
theorem tc_pass_fix {σ : tcS} (hK : ∀ t, t < σ.2.2.2 1 → σ.2.1 0 t < 8) : ∀ (n : Nat) (ρ : tcS), tc_J σ ρ → tc_Z ρ (σ.2.2.2 1) < n → tc_J σ (tc_pass n (ρ, true)) ∧ tc_fix σ (tc_pass n (ρ, true))
  | 0, ρ, _, h => absurd h (by omega)
  | n + 1, ρ, hJ, hZ => by
    have e : tc_pass (n + 1) (ρ, true) = tc_pass n (tc_grow ρ) := by rw [tc_pass, if_pos rfl]
    rw [e]
    have hT : ρ.2.2.2 1 = σ.2.2.2 1 := by rw [hJ.1]
    obtain ⟨i1, i2, i3, i4⟩ := tc_grow_J hK (σ.2.2.2 1) 0 (ρ, false) (by omega) hJ
    have eg : tc_grow ρ = tc_up tc_gb (σ.2.2.2 1) 0 (ρ, false) := by unfold tc_grow; rw [hT]
    rw [← eg] at i1 i2 i3 i4
    cases hg : (tc_grow ρ).2
    · have h1 := i4 hg
      have hF : tc_fix σ ρ := fun t ht => h1.2 t (Nat.zero_le _) ht
      rw [h1.1]
      have : tc_pass n (ρ, false) = ρ := by
        cases n with
        | zero => rfl
        | succ n => rw [tc_pass, if_neg (by simp)]
      rw [this]
      exact ⟨hJ, hF⟩
    · have e2 : tc_grow ρ = ((tc_grow ρ).1, true) := by rw [← hg]
      rcases i3 with ⟨u, hu, h1, h2⟩ | q
      · have hlt : tc_Z (tc_grow ρ).1 (σ.2.2.2 1) < tc_Z ρ (σ.2.2.2 1) := tc_Z_lt (n := σ.2.2.2 1) hu i2 h1 h2
        rw [e2]
        exact tc_pass_fix hK n (tc_grow ρ).1 i1 (by omega)
      · have hF : tc_fix σ (tc_grow ρ).1 := q (fun u hu => absurd hu (by omega))
        have : tc_pass n (tc_grow ρ) = (tc_grow ρ).1 := by
          cases n with
          | zero => rfl
          | succ n =>
            rw [tc_pass, if_pos hg, tc_fix_grow i1 hF]
            cases n with
            | zero => rfl
            | succ n => rw [tc_pass, if_neg (by simp)]
        rw [this]
        exact ⟨i1, hF⟩
theorem tc_i0_up : ∀ (n j : Nat) (ρ : tcS), (∀ k, k ≠ 5 → k ≠ 6 → k ≠ 7 → (tc_up tc_i0 n j ρ).1 k = ρ.1 k) ∧
    (∀ t, j ≤ t → t < j + n → (tc_up tc_i0 n j ρ).1 5 t = tc_phav ρ (ρ.1 1 t) ∧ (tc_up tc_i0 n j ρ).1 6 t = tc_phav ρ (ρ.1 2 t) ∧ (tc_up tc_i0 n j ρ).1 7 t = 0) ∧
    (∀ t, t < j → (tc_up tc_i0 n j ρ).1 5 t = ρ.1 5 t ∧ (tc_up tc_i0 n j ρ).1 6 t = ρ.1 6 t ∧ (tc_up tc_i0 n j ρ).1 7 t = ρ.1 7 t)
  | 0, j, ρ => ⟨fun _ _ _ _ => rfl, fun t h1 h2 => absurd h2 (by omega), fun _ _ => ⟨rfl, rfl, rfl⟩⟩
  | n + 1, j, ρ => by
    obtain ⟨h1, h2, h3⟩ := tc_i0_up n (j + 1) (tc_i0 j ρ)
    have e5 : (tc_i0 j ρ).1 5 = upd (ρ.1 5) j (tc_phav ρ (ρ.1 1 j)) := rfl
    have e6 : (tc_i0 j ρ).1 6 = upd (ρ.1 6) j (tc_phav ρ (ρ.1 2 j)) := rfl
    have e7 : (tc_i0 j ρ).1 7 = upd (ρ.1 7) j 0 := rfl
    refine ⟨fun k a b c => ?_, fun t a b => ?_, fun t a => ?_⟩
    · rw [show tc_up tc_i0 (n + 1) j ρ = tc_up tc_i0 n (j + 1) (tc_i0 j ρ) from rfl, h1 k a b c]
      show va_up (va_up (va_up ρ.1 5 _) 6 _) 7 _ k = ρ.1 k
      simp [va_up, a, b, c]
    · rw [show tc_up tc_i0 (n + 1) j ρ = tc_up tc_i0 n (j + 1) (tc_i0 j ρ) from rfl]
      by_cases q : t = j
      · subst q
        obtain ⟨g1, g2, g3⟩ := h3 t (by omega)
        rw [g1, g2, g3, e5, e6, e7, tc_upd_s, tc_upd_s, tc_upd_s]
        exact ⟨rfl, rfl, rfl⟩
      · exact h2 t (by omega) (by omega)
    · rw [show tc_up tc_i0 (n + 1) j ρ = tc_up tc_i0 n (j + 1) (tc_i0 j ρ) from rfl]
      obtain ⟨g1, g2, g3⟩ := h3 t (by omega)
      rw [g1, g2, g3, e5, e6, e7, tc_upd_n (by omega), tc_upd_n (by omega), tc_upd_n (by omega)]
      exact ⟨rfl, rfl, rfl⟩
theorem tc_phav_bt {σ : tcS} (hP : σ.2.2.2 0 ≤ 6) {w : Int32} {p : Nat} : bt (tc_phav σ w) p = true ↔ p < σ.2.2.2 0 ∧ tc_fit w (σ.1 0 p) = true := by
  unfold tc_phav
  constructor
  · intro h
    have h32 := tc_bt_lt h
    rw [tc_mk_bt (by omega) h32] at h
    simpa using h
  · intro h
    rw [tc_mk_bt (by omega) (by omega)]
    simpa using h
/-- where the passes begin -/
def tc_st0 (σ : tcS) : tcS := tc_s1 (tc_up tc_i0 (σ.2.2.2 1) 0 σ) 8 (tc_fill 8 0 ((tc_up tc_i0 (σ.2.2.2 1) 0 σ).1 8))
theorem tc_st0_J {σ : tcS} (hP : σ.2.2.2 0 ≤ 6) (hK : ∀ t, t < σ.2.2.2 1 → σ.2.1 0 t < 8) : tc_J σ (tc_st0 σ) := by
  obtain ⟨h1, h2, h3⟩ := tc_i0_up (σ.2.2.2 1) 0 σ
  have hk := tc_up_k1 tc_i0_k (σ.2.2.2 1) 0 σ
  refine ⟨hk.1, h1 4 (by omega) (by omega) (by omega), fun t p ht => ?_, fun t p ht => ?_, fun t p ht hb => ?_, fun k p hk8 hb => ?_, fun u p hu hz => ?_, fun t p ht hb => ?_⟩
  · show bt ((tc_up tc_i0 (σ.2.2.2 1) 0 σ).1 5 t) p = true ↔ _
    rw [(h2 t (by omega) (by omega)).1]
    exact tc_phav_bt hP
  · show bt ((tc_up tc_i0 (σ.2.2.2 1) 0 σ).1 6 t) p = true ↔ _
    rw [(h2 t (by omega) (by omega)).2.1]
    exact tc_phav_bt hP
  · have hb : bt ((tc_up tc_i0 (σ.2.2.2 1) 0 σ).1 7 t) p = true := hb
    rw [(h2 t (by omega) (by omega)).2.2, b_0] at hb
    cases hb
  · have hb : bt (tc_fill 8 0 ((tc_up tc_i0 (σ.2.2.2 1) 0 σ).1 8) k) p = true := hb
    rw [tc_fill, if_pos hk8, b_0] at hb
    cases hb
  · exact absurd (show (tc_up tc_i0 (σ.2.2.2 1) 0 σ).1 7 u = 0 from (h2 u (by omega) (by omega)).2.2) hz
  · have hb : bt ((tc_up tc_i0 (σ.2.2.2 1) 0 σ).1 7 t) p = true := hb
    rw [(h2 t (by omega) (by omega)).2.2, b_0] at hb
    cases hb
/-- THE SETTLED TABLES -/
theorem tc_settle_J {σ : tcS} (hP : σ.2.2.2 0 ≤ 6) (hK : ∀ t, t < σ.2.2.2 1 → σ.2.1 0 t < 8) : tc_J σ (tc_settle σ) ∧ tc_fix σ (tc_settle σ) := by
  have h := tc_pass_fix hK (σ.2.2.2 1 + 1) (tc_st0 σ) (tc_st0_J hP hK) (by have := tc_Z_le (tc_st0 σ) (σ.2.2.2 1); omega)
  exact h
theorem tc_settle_built {σ : tcS} (hP : σ.2.2.2 0 ≤ 6) (hK : ∀ t, t < σ.2.2.2 1 → σ.2.1 0 t < 8) {t p : Nat} (ht : t < σ.2.2.2 1) : bt ((tc_settle σ).1 7 t) p = true ↔ tc_bw σ t p :=
  tc_J_end (tc_settle_J hP hK).1 (tc_settle_J hP hK).2 ht
/-- what settling leaves as it was -/
theorem tc_gb_keep (t : Nat) (a : tcS × Bool) (k : Nat) (h7 : k ≠ 7) (h8 : k ≠ 8) : (tc_gb t a).1.1 k = a.1.1 k := by
  unfold tc_gb
  split
  · rfl
  · show va_up (va_up a.1.1 7 _) 8 _ k = a.1.1 k
    simp [va_up, h7, h8]
theorem tc_grow_keep (k : Nat) (h7 : k ≠ 7) (h8 : k ≠ 8) : ∀ (n t : Nat) (a : tcS × Bool), (tc_up tc_gb n t a).1.1 k = a.1.1 k
  | 0, _, _ => rfl
  | n + 1, t, a => by
    show (tc_up tc_gb n (t + 1) (tc_gb t a)).1.1 k = _
    rw [tc_grow_keep k h7 h8 n (t + 1) (tc_gb t a), tc_gb_keep t a k h7 h8]
theorem tc_pass_keep (k : Nat) (h7 : k ≠ 7) (h8 : k ≠ 8) : ∀ (n : Nat) (a : tcS × Bool), (tc_pass n a).1 k = a.1.1 k
  | 0, _ => rfl
  | n + 1, a => by
    unfold tc_pass
    split
    · rw [tc_pass_keep k h7 h8 n (tc_grow a.1)]
      exact tc_grow_keep k h7 h8 _ _ _
    · rfl
theorem tc_settle_keep {σ : tcS} {k : Nat} (h : k < 5 ∨ 8 < k) : (tc_settle σ).1 k = σ.1 k := by
  have h1 : (tc_settle σ).1 k = (tc_st0 σ).1 k := tc_pass_keep k (by omega) (by omega) (σ.2.2.2 1 + 1) (tc_st0 σ, true)
  rw [h1]
  show va_up (tc_up tc_i0 (σ.2.2.2 1) 0 σ).1 8 _ k = _
  have h8 : k ≠ 8 := by omega
  simp only [va_up, h8, if_false]
  exact (tc_i0_up (σ.2.2.2 1) 0 σ).1 k (by omega) (by omega) (by omega)
/-- a kind is supplied for a platform -/
theorem tc_settle_sup {σ : tcS} (hP : σ.2.2.2 0 ≤ 6) (hK : ∀ t, t < σ.2.2.2 1 → σ.2.1 0 t < 8) {k p : Nat} (hk : k < 8) (hp : p < σ.2.2.2 0) : bt ((tc_settle σ).1 8 k) p = true ↔ ∃ u q, u < σ.2.2.2 1 ∧ q < σ.2.2.2 0 ∧ σ.2.1 0 u = k ∧ tc_fit (σ.1 2 u) (σ.1 0 p) = true ∧ tc_bw σ u q := by
  obtain ⟨hJ, hF⟩ := tc_settle_J hP hK
  refine ⟨hJ.2.2.2.2.2.1 k p hk, fun ⟨u, q, h1, h2, h3, h4, h5⟩ => ?_⟩
  have h6 := (tc_J_end hJ hF h1).mpr h5
  have h7 := hJ.2.2.2.2.2.2.1 u p h1 (tc_nz.mpr ⟨q, h6⟩) ((hJ.2.2.2.1 u p h1).mpr ⟨hp, h4⟩)
  rw [h3] at h7
  exact h7
end
section
/-! LEADS: what a tool leads to, by one step or more -/
def rg_tc (E : Nat → Nat → Prop) (a b : Nat) : Prop := ∀ S : Nat → Nat → Prop, (∀ x y, E x y → S x y) → (∀ x y z, S x y → S y z → S x z) → S a b
theorem rg_e {E : Nat → Nat → Prop} {a b : Nat} (h : E a b) : rg_tc E a b := fun _ h1 _ => h1 a b h
theorem rg_t {E : Nat → Nat → Prop} {a b c : Nat} (h : rg_tc E a b) (k : rg_tc E b c) : rg_tc E a c := fun S h1 h2 => h2 a b c (h S h1 h2) (k S h1 h2)
theorem tc_l0_up : ∀ (n j : Nat) (ρ : tcS), (∀ k, k ≠ 9 → (tc_up tc_l0 n j ρ).1 k = ρ.1 k) ∧ (∀ t, j ≤ t → t < j + n → (tc_up tc_l0 n j ρ).1 9 t = tc_steps ρ t) ∧ (∀ t, t < j → (tc_up tc_l0 n j ρ).1 9 t = ρ.1 9 t)
  | 0, j, ρ => ⟨fun _ _ => rfl, fun t h1 h2 => absurd h2 (by omega), fun _ _ => rfl⟩
  | n + 1, j, ρ => by
    obtain ⟨h1, h2, h3⟩ := tc_l0_up n (j + 1) (tc_l0 j ρ)
    have e9 : (tc_l0 j ρ).1 9 = upd (ρ.1 9) j (tc_steps ρ j) := rfl
    have er : tc_up tc_l0 (n + 1) j ρ = tc_up tc_l0 n (j + 1) (tc_l0 j ρ) := rfl
    rw [er]
    refine ⟨fun k a => ?_, fun t a b => ?_, fun t a => ?_⟩
    · rw [h1 k a]
      show va_up ρ.1 9 _ k = ρ.1 k
      simp [va_up, a]
    · by_cases q : t = j
      · subst q
        rw [h3 t (by omega), e9, tc_upd_s]
      · exact h2 t (by omega) (by omega)
    · rw [h3 t (by omega), e9, tc_upd_n (by omega)]
def tc_wr (ρ : tcS) (m t : Nat) : Int32 := if bt (ρ.1 9 t) m = true then ρ.1 9 t ||| ρ.1 9 m else ρ.1 9 t
theorem tc_wr_m (ρ : tcS) (m : Nat) : tc_wr ρ m m = ρ.1 9 m := by
  unfold tc_wr
  split
  · refine b_ext (fun i _ => ?_)
    rw [b_or]
    simp
  · rfl
theorem tc_l1_9 (m j : Nat) (ρ : tcS) (t : Nat) : (tc_l1 m j ρ).1 9 t = if t = j then tc_wr ρ m j else ρ.1 9 t := by
  unfold tc_l1 tc_wr
  by_cases h : bt (ρ.1 9 j) m = true
  · rw [if_pos h, if_pos h]
    show upd (ρ.1 9) j (ρ.1 9 j ||| ρ.1 9 m) t = _
    rfl
  · rw [if_neg h, if_neg h]
    split
    · rename_i e
      rw [e]
    · rfl
theorem tc_l1_up (m : Nat) : ∀ (n j : Nat) (ρ : tcS) (t : Nat), (tc_up (tc_l1 m) n j ρ).1 9 t = if j ≤ t ∧ t < j + n then tc_wr ρ m t else ρ.1 9 t
  | 0, j, ρ, t => by
    rw [if_neg (by omega)]
    rfl
  | n + 1, j, ρ, t => by
    rw [show tc_up (tc_l1 m) (n + 1) j ρ = tc_up (tc_l1 m) n (j + 1) (tc_l1 m j ρ) from rfl, tc_l1_up m n (j + 1) (tc_l1 m j ρ) t]
    have em : (tc_l1 m j ρ).1 9 m = ρ.1 9 m := by
      rw [tc_l1_9]
      split
      · rename_i e
        rw [← e, tc_wr_m]
      · rfl
    by_cases q : t = j
    · subst q
      rw [if_neg (by omega), if_pos (by omega), tc_l1_9, if_pos rfl]
    · by_cases q2 : j ≤ t ∧ t < j + (n + 1)
      · rw [if_pos (by omega), if_pos q2]
        unfold tc_wr
        rw [em, tc_l1_9, if_neg q]
      · rw [if_neg (by omega), if_neg q2, tc_l1_9, if_neg q]
theorem tc_l1_keep (m : Nat) (k : Nat) (h : k ≠ 9) : ∀ (n j : Nat) (ρ : tcS), (tc_up (tc_l1 m) n j ρ).1 k = ρ.1 k
  | 0, _, _ => rfl
  | n + 1, j, ρ => by
    rw [show tc_up (tc_l1 m) (n + 1) j ρ = tc_up (tc_l1 m) n (j + 1) (tc_l1 m j ρ) from rfl, tc_l1_keep m k h n (j + 1) (tc_l1 m j ρ)]
    unfold tc_l1
    split
    · show va_up ρ.1 9 _ k = ρ.1 k
      simp [va_up, h]
    · rfl
theorem tc_l2_bt {m : Nat} {ρ : tcS} {t u : Nat} (ht : t < ρ.2.2.2 1) : bt ((tc_l2 m ρ).1 9 t) u = true ↔ bt (ρ.1 9 t) u = true ∨ (bt (ρ.1 9 t) m = true ∧ bt (ρ.1 9 m) u = true) := by
  unfold tc_l2
  rw [tc_l1_up, if_pos (by omega)]
  unfold tc_wr
  by_cases h : bt (ρ.1 9 t) m = true
  · rw [if_pos h, b_or, Bool.or_eq_true]
    simp [h]
  · rw [if_neg h]
    simp [h]
/-- the passes: sound, growing, closed for the middles gone through -/
theorem tc_l2_up (T : Nat) (E : Nat → Nat → Prop) : ∀ (n m : Nat) (ρ : tcS), ρ.2.2.2 1 = T → m + n = T →
    (∀ t u, t < T → bt (ρ.1 9 t) u = true → rg_tc E t u) → (∀ j t u, j < m → t < T → bt (ρ.1 9 t) j = true → bt (ρ.1 9 j) u = true → bt (ρ.1 9 t) u = true) →
    (∀ t u, t < T → bt ((tc_up tc_l2 n m ρ).1 9 t) u = true → rg_tc E t u) ∧ (∀ t u, t < T → bt (ρ.1 9 t) u = true → bt ((tc_up tc_l2 n m ρ).1 9 t) u = true) ∧
    (∀ j t u, j < T → t < T → bt ((tc_up tc_l2 n m ρ).1 9 t) j = true → bt ((tc_up tc_l2 n m ρ).1 9 j) u = true → bt ((tc_up tc_l2 n m ρ).1 9 t) u = true)
  | 0, m, ρ, hT, hm, h1, h2 => by
    have e : m = T := by omega
    subst e
    exact ⟨h1, fun _ _ _ q => q, h2⟩
  | n + 1, m, ρ, hT, hm, h1, h2 => by
    rw [show tc_up tc_l2 (n + 1) m ρ = tc_up tc_l2 n (m + 1) (tc_l2 m ρ) from rfl]
    have hb : ∀ t u, t < T → (bt ((tc_l2 m ρ).1 9 t) u = true ↔ bt (ρ.1 9 t) u = true ∨ (bt (ρ.1 9 t) m = true ∧ bt (ρ.1 9 m) u = true)) := fun t u ht => tc_l2_bt (by omega)
    have hmT : m < T := by omega
    obtain ⟨g1, g2, g3⟩ := tc_l2_up T E n (m + 1) (tc_l2 m ρ) (by rw [(tc_l2_k m ρ).1]; exact hT) (by omega)
      (fun t u ht q => by
        rcases (hb t u ht).mp q with q | ⟨q1, q2⟩
        · exact h1 t u ht q
        · exact rg_t (h1 t m ht q1) (h1 m u hmT q2))
      (fun j t u hj ht q1 q2 => by
        have hjT : j < T := by omega
        rw [hb t j ht] at q1
        rw [hb j u hjT] at q2
        rw [hb t u ht]
        by_cases e : j = m
        · subst e
          have a1 : bt (ρ.1 9 t) j = true := by rcases q1 with q | q; exact q; exact q.1
          have a2 : bt (ρ.1 9 j) u = true := by rcases q2 with q | q; exact q; exact q.2
          exact Or.inr ⟨a1, a2⟩
        · have hjm : j < m := by omega
          rcases q1 with q1 | ⟨q1, q3⟩
          · rcases q2 with q2 | ⟨q2, q4⟩
            · exact Or.inl (h2 j t u hjm ht q1 q2)
            · exact Or.inr ⟨h2 j t m hjm ht q1 q2, q4⟩
          · rcases q2 with q2 | ⟨q2, q4⟩
            · exact Or.inr ⟨q1, h2 j m u hjm hmT q3 q2⟩
            · exact Or.inr ⟨q1, q4⟩)
    exact ⟨g1, fun t u ht q => g2 t u ht ((hb t u ht).mpr (Or.inl q)), g3⟩
/-- LEADS: the closure of the single steps -/
theorem tc_leads_bt {σ : tcS} {t u : Nat} (ht : t < σ.2.2.2 1) (hs : ∀ a b, bt (tc_steps σ a) b = true → b < σ.2.2.2 1) : bt ((tc_leads σ).1 9 t) u = true ↔ rg_tc (fun a b => a < σ.2.2.2 1 ∧ bt (tc_steps σ a) b = true) t u := by
  obtain ⟨k1, k2, k3⟩ := tc_l0_up (σ.2.2.2 1) 0 σ
  have hk := tc_up_k1 tc_l0_k (σ.2.2.2 1) 0 σ
  have e9 : ∀ a, a < σ.2.2.2 1 → (tc_up tc_l0 (σ.2.2.2 1) 0 σ).1 9 a = tc_steps σ a := fun a ha => k2 a (by omega) (by omega)
  obtain ⟨g1, g2, g3⟩ := tc_l2_up (σ.2.2.2 1) (fun a b => a < σ.2.2.2 1 ∧ bt (tc_steps σ a) b = true) (σ.2.2.2 1) 0 (tc_up tc_l0 (σ.2.2.2 1) 0 σ) (by rw [hk.1]) (by omega)
    (fun a b ha q => rg_e ⟨ha, by rw [e9 a ha] at q; exact q⟩) (fun j _ _ hj => absurd hj (by omega))
  refine ⟨g1 t u ht, fun h => ?_⟩
  have h1 := h (fun a b => a < σ.2.2.2 1 ∧ b < σ.2.2.2 1 ∧ bt ((tc_leads σ).1 9 a) b = true) (fun a b q => ⟨q.1, hs a b q.2, g2 a b q.1 (by rw [e9 a q.1]; exact q.2)⟩)
    (fun a b c q1 q2 => ⟨q1.1, q2.2.1, g3 b a c q1.2.1 q1.1 q1.2.2 q2.2.2⟩)
  exact h1.2.2
theorem tc_steps_bt {σ : tcS} (hT : σ.2.2.2 1 ≤ 24) {t u : Nat} : bt (tc_steps σ t) u = true ↔ u < σ.2.2.2 1 ∧ bt (σ.1 4 t) (σ.2.1 0 u) = true ∧ (∃ p, bt (σ.1 6 u) p = true ∧ bt (tc_unb σ t) p = true) ∧ ∃ q, bt (tc_unb σ u) q = true := by
  have key : ∀ n, ((bt (σ.1 4 t) (σ.2.1 0 n) && (!decide (σ.1 6 n &&& tc_unb σ t = 0) && !decide (tc_unb σ n = 0))) = true) ↔ bt (σ.1 4 t) (σ.2.1 0 n) = true ∧ (∃ p, bt (σ.1 6 n) p = true ∧ bt (tc_unb σ t) p = true) ∧ ∃ q, bt (tc_unb σ n) q = true := by
    intro n
    rw [Bool.and_eq_true, Bool.and_eq_true, Bool.not_eq_true', Bool.not_eq_true', decide_eq_false_iff_not, decide_eq_false_iff_not, tc_nz, tc_nz]
    have : (∃ i, bt (σ.1 6 n &&& tc_unb σ t) i = true) ↔ ∃ p, bt (σ.1 6 n) p = true ∧ bt (tc_unb σ t) p = true := by
      refine ⟨fun ⟨i, hi⟩ => ⟨i, ?_⟩, fun ⟨i, hi⟩ => ⟨i, ?_⟩⟩
      · rw [b_and, Bool.and_eq_true] at hi
        exact hi
      · rw [b_and, Bool.and_eq_true]
        exact hi
    rw [this]
  unfold tc_steps
  constructor
  · intro h
    have h32 := tc_bt_lt h
    rw [tc_mk_bt (by omega) h32, Bool.and_eq_true, decide_eq_true_eq] at h
    exact ⟨h.1, (key u).mp h.2⟩
  · intro h
    rw [tc_mk_bt (by omega) (by omega), Bool.and_eq_true, decide_eq_true_eq]
    exact ⟨h.1, (key u).mpr h.2⟩
end
section
def tm_h (σ : tcS) : List tcC := [
  .inr (3, [.inl (nI (σ.2.2.2 5)), .inl (nI (σ.2.2.2 0)), .inl (nI (σ.2.2.2 1)), .inl (nI (σ.2.2.2 2)), .inl (nI (σ.2.2.2 3)), .inr (some 1), .inr (some 2), .inr (some 3), .inr (some 4), .inr (some 5), .inr (some 6), .inr (some 7), .inr (some 8), .inr (some 9), .inr (some 10), .inr (some 11), .inr (some 12), .inr (some 13), .inr (some 14), .inr (some 15), .inr (some 16), .inr (some 17), .inr (some 18), .inr (some 19), .inl (nI (σ.2.2.2 4))]),
  .inl (0, 6, .inl (σ.1 0)),
  .inl (0, 24, .inl (fun j => nI (σ.2.1 0 j))),
  .inl (0, 24, .inl (σ.1 1)),
  .inl (0, 24, .inl (σ.1 2)),
  .inl (0, 24, .inl (σ.1 3)),
  .inl (0, 24, .inl (fun j => nI (σ.2.1 1 j))),
  .inl (0, 40, .inl (fun j => nI (σ.2.1 3 j))),
  .inl (0, 40, .inl (fun j => nI (σ.2.1 4 j))),
  .inl (0, 8, .inl (fun j => nI (σ.2.1 2 j))),
  .inl (0, 8, .inl (σ.1 10)),
  .inl (0, 8, .inl (fun j => tc_oI (σ.2.2.1 0 j))),
  .inl (0, 8, .inl (fun j => tc_oI (σ.2.2.1 1 j))),
  .inl (1, 8, .inl (σ.1 11)),
  .inl (1, 144, .inl (fun j => tc_b2 (σ.2.2.1 3 j).isSome)),
  .inl (1, 144, .inl (fun j => tc_b2 (σ.2.2.1 4 j).isSome)),
  .inl (0, 200, .inl (fun j => nI (σ.2.1 5 j))),
  .inl (0, 200, .inl (fun j => nI (σ.2.1 6 j))),
  .inl (0, 200, .inl (fun j => nI (σ.2.1 7 j))),
  .inl (0, 200, .inl (fun j => tc_oI (σ.2.2.1 2 j)))]
theorem tm_len {σ τ : tcS} : (tm_h σ).length = (tm_h τ).length := rfl
section MW
variable {M : tcM} {K : tcK} {nc ns pc : Nat} {L : List (Option tcV)} {st : List tcV}
theorem tc_upd4 {f : Nat → Option Nat} {t : Nat} {v : Option Nat} : upd (fun j => tc_b2 (f j).isSome) t (tc_b2 v.isSome) = fun j => tc_b2 (va_up f t v j).isSome := by
  funext j
  unfold upd va_up
  split <;> rfl
theorem tc_nar (b : Bool) : vp_nar .boolean (tc_b2 b) = tc_b2 b := by cases b <;> rfl
theorem ldM_1 {σ : tcS} {t : Nat} (hd : decode M.1 pc = .ok (.iaload, 1)) (ht : t < 6) (k : tc_V M K nc ns (tm_h σ) (pc + 1) L (.inl (σ.1 0 t) :: st)) : tc_V M K nc ns (tm_h σ) pc L (.inl (nI t) :: .inr (some 1) :: st) := tv_ialdN hd rfl (by decide) ht k
theorem stM_1 {σ : tcS} {t : Nat} {x : Int32} (hd : decode M.1 pc = .ok (.iastore, 1)) (ht : t < 6) (k : tc_V M K nc ns (tm_h (tc_s1 σ 0 (upd (σ.1 0) t x))) (pc + 1) L st) : tc_V M K nc ns (tm_h σ) pc L (.inl x :: .inl (nI t) :: .inr (some 1) :: st) := tv_iastN hd rfl (by decide) ht rfl k
theorem ldM_2 {σ : tcS} {t : Nat} (hd : decode M.1 pc = .ok (.iaload, 1)) (ht : t < 24) (k : tc_V M K nc ns (tm_h σ) (pc + 1) L (.inl (nI (σ.2.1 0 t)) :: st)) : tc_V M K nc ns (tm_h σ) pc L (.inl (nI t) :: .inr (some 2) :: st) := tv_ialdN hd rfl (by decide) ht k
theorem stM_2 {σ : tcS} {t v : Nat} (hd : decode M.1 pc = .ok (.iastore, 1)) (ht : t < 24) (k : tc_V M K nc ns (tm_h (tc_s2 σ 0 (va_up (σ.2.1 0) t v))) (pc + 1) L st) : tc_V M K nc ns (tm_h σ) pc L (.inl (nI v) :: .inl (nI t) :: .inr (some 2) :: st) := tv_iastN hd rfl (by decide) ht (by rw [tc_upd2]; rfl) k
theorem ldM_3 {σ : tcS} {t : Nat} (hd : decode M.1 pc = .ok (.iaload, 1)) (ht : t < 24) (k : tc_V M K nc ns (tm_h σ) (pc + 1) L (.inl (σ.1 1 t) :: st)) : tc_V M K nc ns (tm_h σ) pc L (.inl (nI t) :: .inr (some 3) :: st) := tv_ialdN hd rfl (by decide) ht k
theorem stM_3 {σ : tcS} {t : Nat} {x : Int32} (hd : decode M.1 pc = .ok (.iastore, 1)) (ht : t < 24) (k : tc_V M K nc ns (tm_h (tc_s1 σ 1 (upd (σ.1 1) t x))) (pc + 1) L st) : tc_V M K nc ns (tm_h σ) pc L (.inl x :: .inl (nI t) :: .inr (some 3) :: st) := tv_iastN hd rfl (by decide) ht rfl k
theorem ldM_4 {σ : tcS} {t : Nat} (hd : decode M.1 pc = .ok (.iaload, 1)) (ht : t < 24) (k : tc_V M K nc ns (tm_h σ) (pc + 1) L (.inl (σ.1 2 t) :: st)) : tc_V M K nc ns (tm_h σ) pc L (.inl (nI t) :: .inr (some 4) :: st) := tv_ialdN hd rfl (by decide) ht k
theorem stM_4 {σ : tcS} {t : Nat} {x : Int32} (hd : decode M.1 pc = .ok (.iastore, 1)) (ht : t < 24) (k : tc_V M K nc ns (tm_h (tc_s1 σ 2 (upd (σ.1 2) t x))) (pc + 1) L st) : tc_V M K nc ns (tm_h σ) pc L (.inl x :: .inl (nI t) :: .inr (some 4) :: st) := tv_iastN hd rfl (by decide) ht rfl k
theorem ldM_5 {σ : tcS} {t : Nat} (hd : decode M.1 pc = .ok (.iaload, 1)) (ht : t < 24) (k : tc_V M K nc ns (tm_h σ) (pc + 1) L (.inl (σ.1 3 t) :: st)) : tc_V M K nc ns (tm_h σ) pc L (.inl (nI t) :: .inr (some 5) :: st) := tv_ialdN hd rfl (by decide) ht k
theorem stM_5 {σ : tcS} {t : Nat} {x : Int32} (hd : decode M.1 pc = .ok (.iastore, 1)) (ht : t < 24) (k : tc_V M K nc ns (tm_h (tc_s1 σ 3 (upd (σ.1 3) t x))) (pc + 1) L st) : tc_V M K nc ns (tm_h σ) pc L (.inl x :: .inl (nI t) :: .inr (some 5) :: st) := tv_iastN hd rfl (by decide) ht rfl k
theorem ldM_6 {σ : tcS} {t : Nat} (hd : decode M.1 pc = .ok (.iaload, 1)) (ht : t < 24) (k : tc_V M K nc ns (tm_h σ) (pc + 1) L (.inl (nI (σ.2.1 1 t)) :: st)) : tc_V M K nc ns (tm_h σ) pc L (.inl (nI t) :: .inr (some 6) :: st) := tv_ialdN hd rfl (by decide) ht k
theorem stM_6 {σ : tcS} {t v : Nat} (hd : decode M.1 pc = .ok (.iastore, 1)) (ht : t < 24) (k : tc_V M K nc ns (tm_h (tc_s2 σ 1 (va_up (σ.2.1 1) t v))) (pc + 1) L st) : tc_V M K nc ns (tm_h σ) pc L (.inl (nI v) :: .inl (nI t) :: .inr (some 6) :: st) := tv_iastN hd rfl (by decide) ht (by rw [tc_upd2]; rfl) k
theorem ldM_7 {σ : tcS} {t : Nat} (hd : decode M.1 pc = .ok (.iaload, 1)) (ht : t < 40) (k : tc_V M K nc ns (tm_h σ) (pc + 1) L (.inl (nI (σ.2.1 3 t)) :: st)) : tc_V M K nc ns (tm_h σ) pc L (.inl (nI t) :: .inr (some 7) :: st) := tv_ialdN hd rfl (by decide) ht k
theorem stM_7 {σ : tcS} {t v : Nat} (hd : decode M.1 pc = .ok (.iastore, 1)) (ht : t < 40) (k : tc_V M K nc ns (tm_h (tc_s2 σ 3 (va_up (σ.2.1 3) t v))) (pc + 1) L st) : tc_V M K nc ns (tm_h σ) pc L (.inl (nI v) :: .inl (nI t) :: .inr (some 7) :: st) := tv_iastN hd rfl (by decide) ht (by rw [tc_upd2]; rfl) k
theorem ldM_8 {σ : tcS} {t : Nat} (hd : decode M.1 pc = .ok (.iaload, 1)) (ht : t < 40) (k : tc_V M K nc ns (tm_h σ) (pc + 1) L (.inl (nI (σ.2.1 4 t)) :: st)) : tc_V M K nc ns (tm_h σ) pc L (.inl (nI t) :: .inr (some 8) :: st) := tv_ialdN hd rfl (by decide) ht k
theorem stM_8 {σ : tcS} {t v : Nat} (hd : decode M.1 pc = .ok (.iastore, 1)) (ht : t < 40) (k : tc_V M K nc ns (tm_h (tc_s2 σ 4 (va_up (σ.2.1 4) t v))) (pc + 1) L st) : tc_V M K nc ns (tm_h σ) pc L (.inl (nI v) :: .inl (nI t) :: .inr (some 8) :: st) := tv_iastN hd rfl (by decide) ht (by rw [tc_upd2]; rfl) k
theorem ldM_9 {σ : tcS} {t : Nat} (hd : decode M.1 pc = .ok (.iaload, 1)) (ht : t < 8) (k : tc_V M K nc ns (tm_h σ) (pc + 1) L (.inl (nI (σ.2.1 2 t)) :: st)) : tc_V M K nc ns (tm_h σ) pc L (.inl (nI t) :: .inr (some 9) :: st) := tv_ialdN hd rfl (by decide) ht k
theorem stM_9 {σ : tcS} {t v : Nat} (hd : decode M.1 pc = .ok (.iastore, 1)) (ht : t < 8) (k : tc_V M K nc ns (tm_h (tc_s2 σ 2 (va_up (σ.2.1 2) t v))) (pc + 1) L st) : tc_V M K nc ns (tm_h σ) pc L (.inl (nI v) :: .inl (nI t) :: .inr (some 9) :: st) := tv_iastN hd rfl (by decide) ht (by rw [tc_upd2]; rfl) k
theorem ldM_10 {σ : tcS} {t : Nat} (hd : decode M.1 pc = .ok (.iaload, 1)) (ht : t < 8) (k : tc_V M K nc ns (tm_h σ) (pc + 1) L (.inl (σ.1 10 t) :: st)) : tc_V M K nc ns (tm_h σ) pc L (.inl (nI t) :: .inr (some 10) :: st) := tv_ialdN hd rfl (by decide) ht k
theorem stM_10 {σ : tcS} {t : Nat} {x : Int32} (hd : decode M.1 pc = .ok (.iastore, 1)) (ht : t < 8) (k : tc_V M K nc ns (tm_h (tc_s1 σ 10 (upd (σ.1 10) t x))) (pc + 1) L st) : tc_V M K nc ns (tm_h σ) pc L (.inl x :: .inl (nI t) :: .inr (some 10) :: st) := tv_iastN hd rfl (by decide) ht rfl k
theorem ldM_11 {σ : tcS} {t : Nat} (hd : decode M.1 pc = .ok (.iaload, 1)) (ht : t < 8) (k : tc_V M K nc ns (tm_h σ) (pc + 1) L (.inl (tc_oI (σ.2.2.1 0 t)) :: st)) : tc_V M K nc ns (tm_h σ) pc L (.inl (nI t) :: .inr (some 11) :: st) := tv_ialdN hd rfl (by decide) ht k
theorem stM_11 {σ : tcS} {t : Nat} (v : Option Nat) (hd : decode M.1 pc = .ok (.iastore, 1)) (ht : t < 8) (k : tc_V M K nc ns (tm_h (tc_s3 σ 0 (va_up (σ.2.2.1 0) t v))) (pc + 1) L st) : tc_V M K nc ns (tm_h σ) pc L (.inl (tc_oI v) :: .inl (nI t) :: .inr (some 11) :: st) := tv_iastN hd rfl (by decide) ht (by rw [tc_upd3]; rfl) k
theorem ldM_12 {σ : tcS} {t : Nat} (hd : decode M.1 pc = .ok (.iaload, 1)) (ht : t < 8) (k : tc_V M K nc ns (tm_h σ) (pc + 1) L (.inl (tc_oI (σ.2.2.1 1 t)) :: st)) : tc_V M K nc ns (tm_h σ) pc L (.inl (nI t) :: .inr (some 12) :: st) := tv_ialdN hd rfl (by decide) ht k
theorem stM_12 {σ : tcS} {t : Nat} (v : Option Nat) (hd : decode M.1 pc = .ok (.iastore, 1)) (ht : t < 8) (k : tc_V M K nc ns (tm_h (tc_s3 σ 1 (va_up (σ.2.2.1 1) t v))) (pc + 1) L st) : tc_V M K nc ns (tm_h σ) pc L (.inl (tc_oI v) :: .inl (nI t) :: .inr (some 12) :: st) := tv_iastN hd rfl (by decide) ht (by rw [tc_upd3]; rfl) k
theorem ldM_13 {σ : tcS} {t : Nat} (hd : decode M.1 pc = .ok (.baload, 1)) (ht : t < 8) (k : tc_V M K nc ns (tm_h σ) (pc + 1) L (.inl (σ.1 11 t) :: st)) : tc_V M K nc ns (tm_h σ) pc L (.inl (nI t) :: .inr (some 13) :: st) := tv_zaldN hd rfl (by decide) ht k
theorem stM_13 {σ : tcS} {t : Nat} {x : Int32} (hd : decode M.1 pc = .ok (.bastore, 1)) (ht : t < 8) (hx : vp_nar .boolean x = x) (k : tc_V M K nc ns (tm_h (tc_s1 σ 11 (upd (σ.1 11) t x))) (pc + 1) L st) : tc_V M K nc ns (tm_h σ) pc L (.inl x :: .inl (nI t) :: .inr (some 13) :: st) := tv_zastN hd rfl (by decide) ht hx rfl k
theorem ldM_14 {σ : tcS} {t : Nat} (hd : decode M.1 pc = .ok (.baload, 1)) (ht : t < 144) (k : tc_V M K nc ns (tm_h σ) (pc + 1) L (.inl (tc_b2 (σ.2.2.1 3 t).isSome) :: st)) : tc_V M K nc ns (tm_h σ) pc L (.inl (nI t) :: .inr (some 14) :: st) := tv_zaldN hd rfl (by decide) ht k
theorem stM_14 {σ : tcS} {t : Nat} (v : Option Nat) (hd : decode M.1 pc = .ok (.bastore, 1)) (ht : t < 144) (k : tc_V M K nc ns (tm_h (tc_s3 σ 3 (va_up (σ.2.2.1 3) t v))) (pc + 1) L st) : tc_V M K nc ns (tm_h σ) pc L (.inl (tc_b2 v.isSome) :: .inl (nI t) :: .inr (some 14) :: st) := tv_zastN hd rfl (by decide) ht (tc_nar _) (by rw [tc_upd4]; rfl) k
theorem lenM_14 {σ : tcS} (hd : decode M.1 pc = .ok (.arraylength, 1)) (k : tc_V M K nc ns (tm_h σ) (pc + 1) L (.inl (nI 144) :: st)) : tc_V M K nc ns (tm_h σ) pc L (.inr (some 14) :: st) := tv_alen hd rfl (by decide) rfl k
theorem ldM_15 {σ : tcS} {t : Nat} (hd : decode M.1 pc = .ok (.baload, 1)) (ht : t < 144) (k : tc_V M K nc ns (tm_h σ) (pc + 1) L (.inl (tc_b2 (σ.2.2.1 4 t).isSome) :: st)) : tc_V M K nc ns (tm_h σ) pc L (.inl (nI t) :: .inr (some 15) :: st) := tv_zaldN hd rfl (by decide) ht k
theorem stM_15 {σ : tcS} {t : Nat} (v : Option Nat) (hd : decode M.1 pc = .ok (.bastore, 1)) (ht : t < 144) (k : tc_V M K nc ns (tm_h (tc_s3 σ 4 (va_up (σ.2.2.1 4) t v))) (pc + 1) L st) : tc_V M K nc ns (tm_h σ) pc L (.inl (tc_b2 v.isSome) :: .inl (nI t) :: .inr (some 15) :: st) := tv_zastN hd rfl (by decide) ht (tc_nar _) (by rw [tc_upd4]; rfl) k
theorem lenM_15 {σ : tcS} (hd : decode M.1 pc = .ok (.arraylength, 1)) (k : tc_V M K nc ns (tm_h σ) (pc + 1) L (.inl (nI 144) :: st)) : tc_V M K nc ns (tm_h σ) pc L (.inr (some 15) :: st) := tv_alen hd rfl (by decide) rfl k
theorem ldM_16 {σ : tcS} {t : Nat} (hd : decode M.1 pc = .ok (.iaload, 1)) (ht : t < 200) (k : tc_V M K nc ns (tm_h σ) (pc + 1) L (.inl (nI (σ.2.1 5 t)) :: st)) : tc_V M K nc ns (tm_h σ) pc L (.inl (nI t) :: .inr (some 16) :: st) := tv_ialdN hd rfl (by decide) ht k
theorem stM_16 {σ : tcS} {t v : Nat} (hd : decode M.1 pc = .ok (.iastore, 1)) (ht : t < 200) (k : tc_V M K nc ns (tm_h (tc_s2 σ 5 (va_up (σ.2.1 5) t v))) (pc + 1) L st) : tc_V M K nc ns (tm_h σ) pc L (.inl (nI v) :: .inl (nI t) :: .inr (some 16) :: st) := tv_iastN hd rfl (by decide) ht (by rw [tc_upd2]; rfl) k
theorem ldM_17 {σ : tcS} {t : Nat} (hd : decode M.1 pc = .ok (.iaload, 1)) (ht : t < 200) (k : tc_V M K nc ns (tm_h σ) (pc + 1) L (.inl (nI (σ.2.1 6 t)) :: st)) : tc_V M K nc ns (tm_h σ) pc L (.inl (nI t) :: .inr (some 17) :: st) := tv_ialdN hd rfl (by decide) ht k
theorem stM_17 {σ : tcS} {t v : Nat} (hd : decode M.1 pc = .ok (.iastore, 1)) (ht : t < 200) (k : tc_V M K nc ns (tm_h (tc_s2 σ 6 (va_up (σ.2.1 6) t v))) (pc + 1) L st) : tc_V M K nc ns (tm_h σ) pc L (.inl (nI v) :: .inl (nI t) :: .inr (some 17) :: st) := tv_iastN hd rfl (by decide) ht (by rw [tc_upd2]; rfl) k
theorem ldM_18 {σ : tcS} {t : Nat} (hd : decode M.1 pc = .ok (.iaload, 1)) (ht : t < 200) (k : tc_V M K nc ns (tm_h σ) (pc + 1) L (.inl (nI (σ.2.1 7 t)) :: st)) : tc_V M K nc ns (tm_h σ) pc L (.inl (nI t) :: .inr (some 18) :: st) := tv_ialdN hd rfl (by decide) ht k
theorem stM_18 {σ : tcS} {t v : Nat} (hd : decode M.1 pc = .ok (.iastore, 1)) (ht : t < 200) (k : tc_V M K nc ns (tm_h (tc_s2 σ 7 (va_up (σ.2.1 7) t v))) (pc + 1) L st) : tc_V M K nc ns (tm_h σ) pc L (.inl (nI v) :: .inl (nI t) :: .inr (some 18) :: st) := tv_iastN hd rfl (by decide) ht (by rw [tc_upd2]; rfl) k
theorem ldM_19 {σ : tcS} {t : Nat} (hd : decode M.1 pc = .ok (.iaload, 1)) (ht : t < 200) (k : tc_V M K nc ns (tm_h σ) (pc + 1) L (.inl (tc_oI (σ.2.2.1 2 t)) :: st)) : tc_V M K nc ns (tm_h σ) pc L (.inl (nI t) :: .inr (some 19) :: st) := tv_ialdN hd rfl (by decide) ht k
theorem stM_19 {σ : tcS} {t : Nat} (v : Option Nat) (hd : decode M.1 pc = .ok (.iastore, 1)) (ht : t < 200) (k : tc_V M K nc ns (tm_h (tc_s3 σ 2 (va_up (σ.2.2.1 2) t v))) (pc + 1) L st) : tc_V M K nc ns (tm_h σ) pc L (.inl (tc_oI v) :: .inl (nI t) :: .inr (some 19) :: st) := tv_iastN hd rfl (by decide) ht (by rw [tc_upd3]; rfl) k
theorem gMO_72 {σ : tcS} (hM : M.2.2.1 = RMO) (hd : decode M.1 pc = .ok (.getfield 72, 3)) (k : tc_V M K nc ns (tm_h σ) (pc + 3) L (.inl (nI (σ.2.2.2 0)) :: st)) : tc_V M K nc ns (tm_h σ) pc L (.inr (some 0) :: st) := tv_get (by rw [hM]; exact fMO_72) hd rfl rfl k
theorem gMO_75 {σ : tcS} (hM : M.2.2.1 = RMO) (hd : decode M.1 pc = .ok (.getfield 75, 3)) (k : tc_V M K nc ns (tm_h σ) (pc + 3) L (.inl (nI (σ.2.2.2 1)) :: st)) : tc_V M K nc ns (tm_h σ) pc L (.inr (some 0) :: st) := tv_get (by rw [hM]; exact fMO_75) hd rfl rfl k
theorem hhMO_68 {σ : tcS} {v : Nat} : (tm_h σ).set 0 (.inr (3, [.inl (nI v), .inl (nI (σ.2.2.2 0)), .inl (nI (σ.2.2.2 1)), .inl (nI (σ.2.2.2 2)), .inl (nI (σ.2.2.2 3)), .inr (some 1), .inr (some 2), .inr (some 3), .inr (some 4), .inr (some 5), .inr (some 6), .inr (some 7), .inr (some 8), .inr (some 9), .inr (some 10), .inr (some 11), .inr (some 12), .inr (some 13), .inr (some 14), .inr (some 15), .inr (some 16), .inr (some 17), .inr (some 18), .inr (some 19), .inl (nI (σ.2.2.2 4))])) = tm_h (tc_s4 σ 5 v) := by simp [tm_h, tc_s4, va_up]
theorem pMO_68 {σ : tcS} {v : Nat} (hM : M.2.2.1 = RMO) (hd : decode M.1 pc = .ok (.putfield 68, 3)) (k : tc_V M K nc ns (tm_h (tc_s4 σ 5 v)) (pc + 3) L st) : tc_V M K nc ns (tm_h σ) pc L (.inl (nI v) :: .inr (some 0) :: st) := tv_put (fs' := [.inl (nI v), .inl (nI (σ.2.2.2 0)), .inl (nI (σ.2.2.2 1)), .inl (nI (σ.2.2.2 2)), .inl (nI (σ.2.2.2 3)), .inr (some 1), .inr (some 2), .inr (some 3), .inr (some 4), .inr (some 5), .inr (some 6), .inr (some 7), .inr (some 8), .inr (some 9), .inr (some 10), .inr (some 11), .inr (some 12), .inr (some 13), .inr (some 14), .inr (some 15), .inr (some 16), .inr (some 17), .inr (some 18), .inr (some 19), .inl (nI (σ.2.2.2 4))]) (by rw [hM]; exact fMO_68) ftMO rfl (by decide +kernel) hd rfl (Nat.le_of_ble_eq_true rfl) rfl hhMO_68 k
theorem gMO_7 {σ : tcS} (hM : M.2.2.1 = RMO) (hd : decode M.1 pc = .ok (.getfield 7, 3)) (k : tc_V M K nc ns (tm_h σ) (pc + 3) L (.inr (some 1) :: st)) : tc_V M K nc ns (tm_h σ) pc L (.inr (some 0) :: st) := tv_get (by rw [hM]; exact fMO_7) hd rfl rfl k
theorem hhMO_72 {σ : tcS} {v : Nat} : (tm_h σ).set 0 (.inr (3, [.inl (nI (σ.2.2.2 5)), .inl (nI v), .inl (nI (σ.2.2.2 1)), .inl (nI (σ.2.2.2 2)), .inl (nI (σ.2.2.2 3)), .inr (some 1), .inr (some 2), .inr (some 3), .inr (some 4), .inr (some 5), .inr (some 6), .inr (some 7), .inr (some 8), .inr (some 9), .inr (some 10), .inr (some 11), .inr (some 12), .inr (some 13), .inr (some 14), .inr (some 15), .inr (some 16), .inr (some 17), .inr (some 18), .inr (some 19), .inl (nI (σ.2.2.2 4))])) = tm_h (tc_s4 σ 0 v) := by simp [tm_h, tc_s4, va_up]
theorem pMO_72 {σ : tcS} {v : Nat} (hM : M.2.2.1 = RMO) (hd : decode M.1 pc = .ok (.putfield 72, 3)) (k : tc_V M K nc ns (tm_h (tc_s4 σ 0 v)) (pc + 3) L st) : tc_V M K nc ns (tm_h σ) pc L (.inl (nI v) :: .inr (some 0) :: st) := tv_put (fs' := [.inl (nI (σ.2.2.2 5)), .inl (nI v), .inl (nI (σ.2.2.2 1)), .inl (nI (σ.2.2.2 2)), .inl (nI (σ.2.2.2 3)), .inr (some 1), .inr (some 2), .inr (some 3), .inr (some 4), .inr (some 5), .inr (some 6), .inr (some 7), .inr (some 8), .inr (some 9), .inr (some 10), .inr (some 11), .inr (some 12), .inr (some 13), .inr (some 14), .inr (some 15), .inr (some 16), .inr (some 17), .inr (some 18), .inr (some 19), .inl (nI (σ.2.2.2 4))]) (by rw [hM]; exact fMO_72) ftMO rfl (by decide +kernel) hd rfl (Nat.le_of_ble_eq_true rfl) rfl hhMO_72 k
theorem gMO_13 {σ : tcS} (hM : M.2.2.1 = RMO) (hd : decode M.1 pc = .ok (.getfield 13, 3)) (k : tc_V M K nc ns (tm_h σ) (pc + 3) L (.inr (some 2) :: st)) : tc_V M K nc ns (tm_h σ) pc L (.inr (some 0) :: st) := tv_get (by rw [hM]; exact fMO_13) hd rfl rfl k
theorem gMO_16 {σ : tcS} (hM : M.2.2.1 = RMO) (hd : decode M.1 pc = .ok (.getfield 16, 3)) (k : tc_V M K nc ns (tm_h σ) (pc + 3) L (.inr (some 3) :: st)) : tc_V M K nc ns (tm_h σ) pc L (.inr (some 0) :: st) := tv_get (by rw [hM]; exact fMO_16) hd rfl rfl k
theorem gMO_19 {σ : tcS} (hM : M.2.2.1 = RMO) (hd : decode M.1 pc = .ok (.getfield 19, 3)) (k : tc_V M K nc ns (tm_h σ) (pc + 3) L (.inr (some 4) :: st)) : tc_V M K nc ns (tm_h σ) pc L (.inr (some 0) :: st) := tv_get (by rw [hM]; exact fMO_19) hd rfl rfl k
theorem gMO_22 {σ : tcS} (hM : M.2.2.1 = RMO) (hd : decode M.1 pc = .ok (.getfield 22, 3)) (k : tc_V M K nc ns (tm_h σ) (pc + 3) L (.inr (some 5) :: st)) : tc_V M K nc ns (tm_h σ) pc L (.inr (some 0) :: st) := tv_get (by rw [hM]; exact fMO_22) hd rfl rfl k
theorem gMO_25 {σ : tcS} (hM : M.2.2.1 = RMO) (hd : decode M.1 pc = .ok (.getfield 25, 3)) (k : tc_V M K nc ns (tm_h σ) (pc + 3) L (.inr (some 6) :: st)) : tc_V M K nc ns (tm_h σ) pc L (.inr (some 0) :: st) := tv_get (by rw [hM]; exact fMO_25) hd rfl rfl k
theorem hhMO_75 {σ : tcS} {v : Nat} : (tm_h σ).set 0 (.inr (3, [.inl (nI (σ.2.2.2 5)), .inl (nI (σ.2.2.2 0)), .inl (nI v), .inl (nI (σ.2.2.2 2)), .inl (nI (σ.2.2.2 3)), .inr (some 1), .inr (some 2), .inr (some 3), .inr (some 4), .inr (some 5), .inr (some 6), .inr (some 7), .inr (some 8), .inr (some 9), .inr (some 10), .inr (some 11), .inr (some 12), .inr (some 13), .inr (some 14), .inr (some 15), .inr (some 16), .inr (some 17), .inr (some 18), .inr (some 19), .inl (nI (σ.2.2.2 4))])) = tm_h (tc_s4 σ 1 v) := by simp [tm_h, tc_s4, va_up]
theorem pMO_75 {σ : tcS} {v : Nat} (hM : M.2.2.1 = RMO) (hd : decode M.1 pc = .ok (.putfield 75, 3)) (k : tc_V M K nc ns (tm_h (tc_s4 σ 1 v)) (pc + 3) L st) : tc_V M K nc ns (tm_h σ) pc L (.inl (nI v) :: .inr (some 0) :: st) := tv_put (fs' := [.inl (nI (σ.2.2.2 5)), .inl (nI (σ.2.2.2 0)), .inl (nI v), .inl (nI (σ.2.2.2 2)), .inl (nI (σ.2.2.2 3)), .inr (some 1), .inr (some 2), .inr (some 3), .inr (some 4), .inr (some 5), .inr (some 6), .inr (some 7), .inr (some 8), .inr (some 9), .inr (some 10), .inr (some 11), .inr (some 12), .inr (some 13), .inr (some 14), .inr (some 15), .inr (some 16), .inr (some 17), .inr (some 18), .inr (some 19), .inl (nI (σ.2.2.2 4))]) (by rw [hM]; exact fMO_75) ftMO rfl (by decide +kernel) hd rfl (Nat.le_of_ble_eq_true rfl) rfl hhMO_75 k
theorem gMO_85 {σ : tcS} (hM : M.2.2.1 = RMO) (hd : decode M.1 pc = .ok (.getfield 85, 3)) (k : tc_V M K nc ns (tm_h σ) (pc + 3) L (.inl (nI (σ.2.2.2 2)) :: st)) : tc_V M K nc ns (tm_h σ) pc L (.inr (some 0) :: st) := tv_get (by rw [hM]; exact fMO_85) hd rfl rfl k
theorem gMO_28 {σ : tcS} (hM : M.2.2.1 = RMO) (hd : decode M.1 pc = .ok (.getfield 28, 3)) (k : tc_V M K nc ns (tm_h σ) (pc + 3) L (.inr (some 7) :: st)) : tc_V M K nc ns (tm_h σ) pc L (.inr (some 0) :: st) := tv_get (by rw [hM]; exact fMO_28) hd rfl rfl k
theorem gMO_31 {σ : tcS} (hM : M.2.2.1 = RMO) (hd : decode M.1 pc = .ok (.getfield 31, 3)) (k : tc_V M K nc ns (tm_h σ) (pc + 3) L (.inr (some 8) :: st)) : tc_V M K nc ns (tm_h σ) pc L (.inr (some 0) :: st) := tv_get (by rw [hM]; exact fMO_31) hd rfl rfl k
theorem hhMO_85 {σ : tcS} {v : Nat} : (tm_h σ).set 0 (.inr (3, [.inl (nI (σ.2.2.2 5)), .inl (nI (σ.2.2.2 0)), .inl (nI (σ.2.2.2 1)), .inl (nI v), .inl (nI (σ.2.2.2 3)), .inr (some 1), .inr (some 2), .inr (some 3), .inr (some 4), .inr (some 5), .inr (some 6), .inr (some 7), .inr (some 8), .inr (some 9), .inr (some 10), .inr (some 11), .inr (some 12), .inr (some 13), .inr (some 14), .inr (some 15), .inr (some 16), .inr (some 17), .inr (some 18), .inr (some 19), .inl (nI (σ.2.2.2 4))])) = tm_h (tc_s4 σ 2 v) := by simp [tm_h, tc_s4, va_up]
theorem pMO_85 {σ : tcS} {v : Nat} (hM : M.2.2.1 = RMO) (hd : decode M.1 pc = .ok (.putfield 85, 3)) (k : tc_V M K nc ns (tm_h (tc_s4 σ 2 v)) (pc + 3) L st) : tc_V M K nc ns (tm_h σ) pc L (.inl (nI v) :: .inr (some 0) :: st) := tv_put (fs' := [.inl (nI (σ.2.2.2 5)), .inl (nI (σ.2.2.2 0)), .inl (nI (σ.2.2.2 1)), .inl (nI v), .inl (nI (σ.2.2.2 3)), .inr (some 1), .inr (some 2), .inr (some 3), .inr (some 4), .inr (some 5), .inr (some 6), .inr (some 7), .inr (some 8), .inr (some 9), .inr (some 10), .inr (some 11), .inr (some 12), .inr (some 13), .inr (some 14), .inr (some 15), .inr (some 16), .inr (some 17), .inr (some 18), .inr (some 19), .inl (nI (σ.2.2.2 4))]) (by rw [hM]; exact fMO_85) ftMO rfl (by decide +kernel) hd rfl (Nat.le_of_ble_eq_true rfl) rfl hhMO_85 k
theorem gMO_92 {σ : tcS} (hM : M.2.2.1 = RMO) (hd : decode M.1 pc = .ok (.getfield 92, 3)) (k : tc_V M K nc ns (tm_h σ) (pc + 3) L (.inl (nI (σ.2.2.2 3)) :: st)) : tc_V M K nc ns (tm_h σ) pc L (.inr (some 0) :: st) := tv_get (by rw [hM]; exact fMO_92) hd rfl rfl k
theorem gMO_34 {σ : tcS} (hM : M.2.2.1 = RMO) (hd : decode M.1 pc = .ok (.getfield 34, 3)) (k : tc_V M K nc ns (tm_h σ) (pc + 3) L (.inr (some 9) :: st)) : tc_V M K nc ns (tm_h σ) pc L (.inr (some 0) :: st) := tv_get (by rw [hM]; exact fMO_34) hd rfl rfl k
theorem hhMO_92 {σ : tcS} {v : Nat} : (tm_h σ).set 0 (.inr (3, [.inl (nI (σ.2.2.2 5)), .inl (nI (σ.2.2.2 0)), .inl (nI (σ.2.2.2 1)), .inl (nI (σ.2.2.2 2)), .inl (nI v), .inr (some 1), .inr (some 2), .inr (some 3), .inr (some 4), .inr (some 5), .inr (some 6), .inr (some 7), .inr (some 8), .inr (some 9), .inr (some 10), .inr (some 11), .inr (some 12), .inr (some 13), .inr (some 14), .inr (some 15), .inr (some 16), .inr (some 17), .inr (some 18), .inr (some 19), .inl (nI (σ.2.2.2 4))])) = tm_h (tc_s4 σ 3 v) := by simp [tm_h, tc_s4, va_up]
theorem pMO_92 {σ : tcS} {v : Nat} (hM : M.2.2.1 = RMO) (hd : decode M.1 pc = .ok (.putfield 92, 3)) (k : tc_V M K nc ns (tm_h (tc_s4 σ 3 v)) (pc + 3) L st) : tc_V M K nc ns (tm_h σ) pc L (.inl (nI v) :: .inr (some 0) :: st) := tv_put (fs' := [.inl (nI (σ.2.2.2 5)), .inl (nI (σ.2.2.2 0)), .inl (nI (σ.2.2.2 1)), .inl (nI (σ.2.2.2 2)), .inl (nI v), .inr (some 1), .inr (some 2), .inr (some 3), .inr (some 4), .inr (some 5), .inr (some 6), .inr (some 7), .inr (some 8), .inr (some 9), .inr (some 10), .inr (some 11), .inr (some 12), .inr (some 13), .inr (some 14), .inr (some 15), .inr (some 16), .inr (some 17), .inr (some 18), .inr (some 19), .inl (nI (σ.2.2.2 4))]) (by rw [hM]; exact fMO_92) ftMO rfl (by decide +kernel) hd rfl (Nat.le_of_ble_eq_true rfl) rfl hhMO_92 k
theorem gMO_37 {σ : tcS} (hM : M.2.2.1 = RMO) (hd : decode M.1 pc = .ok (.getfield 37, 3)) (k : tc_V M K nc ns (tm_h σ) (pc + 3) L (.inr (some 10) :: st)) : tc_V M K nc ns (tm_h σ) pc L (.inr (some 0) :: st) := tv_get (by rw [hM]; exact fMO_37) hd rfl rfl k
theorem gMO_46 {σ : tcS} (hM : M.2.2.1 = RMO) (hd : decode M.1 pc = .ok (.getfield 46, 3)) (k : tc_V M K nc ns (tm_h σ) (pc + 3) L (.inr (some 13) :: st)) : tc_V M K nc ns (tm_h σ) pc L (.inr (some 0) :: st) := tv_get (by rw [hM]; exact fMO_46) hd rfl rfl k
theorem gMO_40 {σ : tcS} (hM : M.2.2.1 = RMO) (hd : decode M.1 pc = .ok (.getfield 40, 3)) (k : tc_V M K nc ns (tm_h σ) (pc + 3) L (.inr (some 11) :: st)) : tc_V M K nc ns (tm_h σ) pc L (.inr (some 0) :: st) := tv_get (by rw [hM]; exact fMO_40) hd rfl rfl k
theorem gMO_50 {σ : tcS} (hM : M.2.2.1 = RMO) (hd : decode M.1 pc = .ok (.getfield 50, 3)) (k : tc_V M K nc ns (tm_h σ) (pc + 3) L (.inr (some 14) :: st)) : tc_V M K nc ns (tm_h σ) pc L (.inr (some 0) :: st) := tv_get (by rw [hM]; exact fMO_50) hd rfl rfl k
theorem gMO_56 {σ : tcS} (hM : M.2.2.1 = RMO) (hd : decode M.1 pc = .ok (.getfield 56, 3)) (k : tc_V M K nc ns (tm_h σ) (pc + 3) L (.inr (some 16) :: st)) : tc_V M K nc ns (tm_h σ) pc L (.inr (some 0) :: st) := tv_get (by rw [hM]; exact fMO_56) hd rfl rfl k
theorem gMO_124 {σ : tcS} (hM : M.2.2.1 = RMO) (hd : decode M.1 pc = .ok (.getfield 124, 3)) (k : tc_V M K nc ns (tm_h σ) (pc + 3) L (.inl (nI (σ.2.2.2 4)) :: st)) : tc_V M K nc ns (tm_h σ) pc L (.inr (some 0) :: st) := tv_get (by rw [hM]; exact fMO_124) hd rfl rfl k
theorem gMO_59 {σ : tcS} (hM : M.2.2.1 = RMO) (hd : decode M.1 pc = .ok (.getfield 59, 3)) (k : tc_V M K nc ns (tm_h σ) (pc + 3) L (.inr (some 17) :: st)) : tc_V M K nc ns (tm_h σ) pc L (.inr (some 0) :: st) := tv_get (by rw [hM]; exact fMO_59) hd rfl rfl k
theorem gMO_62 {σ : tcS} (hM : M.2.2.1 = RMO) (hd : decode M.1 pc = .ok (.getfield 62, 3)) (k : tc_V M K nc ns (tm_h σ) (pc + 3) L (.inr (some 18) :: st)) : tc_V M K nc ns (tm_h σ) pc L (.inr (some 0) :: st) := tv_get (by rw [hM]; exact fMO_62) hd rfl rfl k
theorem gMO_65 {σ : tcS} (hM : M.2.2.1 = RMO) (hd : decode M.1 pc = .ok (.getfield 65, 3)) (k : tc_V M K nc ns (tm_h σ) (pc + 3) L (.inr (some 19) :: st)) : tc_V M K nc ns (tm_h σ) pc L (.inr (some 0) :: st) := tv_get (by rw [hM]; exact fMO_65) hd rfl rfl k
theorem hhMO_124 {σ : tcS} {v : Nat} : (tm_h σ).set 0 (.inr (3, [.inl (nI (σ.2.2.2 5)), .inl (nI (σ.2.2.2 0)), .inl (nI (σ.2.2.2 1)), .inl (nI (σ.2.2.2 2)), .inl (nI (σ.2.2.2 3)), .inr (some 1), .inr (some 2), .inr (some 3), .inr (some 4), .inr (some 5), .inr (some 6), .inr (some 7), .inr (some 8), .inr (some 9), .inr (some 10), .inr (some 11), .inr (some 12), .inr (some 13), .inr (some 14), .inr (some 15), .inr (some 16), .inr (some 17), .inr (some 18), .inr (some 19), .inl (nI v)])) = tm_h (tc_s4 σ 4 v) := by simp [tm_h, tc_s4, va_up]
theorem pMO_124 {σ : tcS} {v : Nat} (hM : M.2.2.1 = RMO) (hd : decode M.1 pc = .ok (.putfield 124, 3)) (k : tc_V M K nc ns (tm_h (tc_s4 σ 4 v)) (pc + 3) L st) : tc_V M K nc ns (tm_h σ) pc L (.inl (nI v) :: .inr (some 0) :: st) := tv_put (fs' := [.inl (nI (σ.2.2.2 5)), .inl (nI (σ.2.2.2 0)), .inl (nI (σ.2.2.2 1)), .inl (nI (σ.2.2.2 2)), .inl (nI (σ.2.2.2 3)), .inr (some 1), .inr (some 2), .inr (some 3), .inr (some 4), .inr (some 5), .inr (some 6), .inr (some 7), .inr (some 8), .inr (some 9), .inr (some 10), .inr (some 11), .inr (some 12), .inr (some 13), .inr (some 14), .inr (some 15), .inr (some 16), .inr (some 17), .inr (some 18), .inr (some 19), .inl (nI v)]) (by rw [hM]; exact fMO_124) ftMO rfl (by decide +kernel) hd rfl (Nat.le_of_ble_eq_true rfl) rfl hhMO_124 k
theorem gMO_43 {σ : tcS} (hM : M.2.2.1 = RMO) (hd : decode M.1 pc = .ok (.getfield 43, 3)) (k : tc_V M K nc ns (tm_h σ) (pc + 3) L (.inr (some 12) :: st)) : tc_V M K nc ns (tm_h σ) pc L (.inr (some 0) :: st) := tv_get (by rw [hM]; exact fMO_43) hd rfl rfl k
theorem gMO_53 {σ : tcS} (hM : M.2.2.1 = RMO) (hd : decode M.1 pc = .ok (.getfield 53, 3)) (k : tc_V M K nc ns (tm_h σ) (pc + 3) L (.inr (some 15) :: st)) : tc_V M K nc ns (tm_h σ) pc L (.inr (some 0) :: st) := tv_get (by rw [hM]; exact fMO_53) hd rfl rfl k
end MW
end
section
/-- what holds of the reference's state between calls -/
def tm_I (τ : tcS) : Prop := τ.2.2.2 0 ≤ 6 ∧ τ.2.2.2 1 ≤ 24 ∧ τ.2.2.2 2 ≤ 40 ∧ τ.2.2.2 3 ≤ 8 ∧ τ.2.2.2 4 ≤ 200 ∧ (∀ t, t < τ.2.2.2 1 → τ.2.1 0 t < 8) ∧ (∀ i, i < τ.2.2.2 1 → τ.2.1 1 i < τ.2.2.2 1) ∧ (∀ i, i < τ.2.2.2 3 → τ.2.1 2 i < 8) ∧ (∀ k t, τ.2.2.1 0 k = some t → t < 24) ∧ (∀ k, τ.1 11 k = 0 ∨ τ.1 11 k = 1) ∧ (∀ i, i < τ.2.2.2 2 → τ.2.1 3 i < 24 ∧ τ.2.1 4 i < 8)
theorem tm_bit {x : Int32} {k : Nat} (hk : k < 32) : ((x >>> (nI k &&& 31)) &&& 1) = tc_b2 (bt x k) := by
  have e1 : ∀ i, i < 32 → bt 1 i = decide (i = 0) := by decide +kernel
  have e0 : ∀ (b : Bool) i, i < 32 → bt (tc_b2 b) i = (decide (i = 0) && b) := by decide +kernel
  refine b_ext (fun i hi => ?_)
  rw [b_and, b_sshr k hk x hi, e1 i hi, e0 _ i hi]
  by_cases h : i = 0
  · subst h
    simp [hk]
  · simp [h]
theorem tc_b2_1 {b : Bool} : tc_b2 b = 1 ↔ b = true := by cases b <;> decide
theorem tc_b2_n1 {b : Bool} : ¬ tc_b2 b = 1 ↔ b = false := by cases b <;> decide
/-- the first constraint that is wished and not there -/
def tm_lk (w h : Int32) : Option Nat := tc_ff (fun c => bt w c && !bt h c) 32 0
theorem tc_ff_none {p : Nat → Bool} : ∀ {n k : Nat}, tc_ff p n k = none ↔ ∀ i, k ≤ i → i < k + n → p i = false
  | 0, k => ⟨fun _ i h1 h2 => absurd h2 (by omega), fun _ => rfl⟩
  | n + 1, k => by
    unfold tc_ff
    by_cases h : p k = true
    · rw [if_pos h]
      refine ⟨fun q => absurd q (by simp), fun q => ?_⟩
      rw [q k (Nat.le_refl _) (by omega)] at h
      cases h
    · rw [if_neg h, tc_ff_none (n := n) (k := k + 1)]
      refine ⟨fun q i h1 h2 => ?_, fun q i h1 h2 => q i (by omega) (by omega)⟩
      by_cases e : i = k
      · rw [e]
        exact Bool.eq_false_iff.mpr h
      · exact q i (by omega) (by omega)
theorem tm_lk_fit {w h : Int32} : tm_lk w h = none ↔ tc_fit w h = true := by
  unfold tm_lk tc_fit
  rw [tc_ff_none, decide_eq_true_eq, tc_z]
  refine ⟨fun q i hi => ?_, fun q i _ hi => ?_⟩
  · rw [b_and, tc_not hi]
    exact q i (Nat.zero_le _) (by omega)
  · have := q i (by omega)
    rw [b_and, tc_not (by omega)] at this
    exact this
theorem tc_ff_bd {p : Nat → Bool} {n k i : Nat} (h : tc_ff p n k = some i) (hb : k + n < 2 ^ 31) : i < 2 ^ 31 := by
  have := tc_ff_lt h
  omega
set_option maxHeartbeats 4000000 in
set_option maxRecDepth 100000 in
theorem mm_isKind (h : List tcC) (x : Int32) : tc_M yMO_isKind cMO_isKind 1 (some .boolean) 0 [.inl x] (h, some (.inl (tc_b2 (tc_isN x 8))), h, 0, 0) := by
  refine tc_met (by decide) (Nat.le_of_ble_eq_true rfl) (Nat.le_refl _) rfl ?_
  refine tv_iload_n dMO_isKind_0 rfl rfl ?_
  refine tv_if_lt (tgt := 14) dMO_isKind_1 (by decide) (fun c1 => ?_) (fun c1 => ?_)
  · have hr := tc_rb (tc_isN_neg (n := 8) c1)
    refine tv_iconst (v := 0) dMO_isKind_14 (by decide) ?_
    exact tv_iret dMO_isKind_15 rfl rfl hr rfl
  · refine tv_iload_n dMO_isKind_4 rfl rfl ?_
    refine tv_bipush (v := 8) dMO_isKind_5 (by decide) ?_
    refine tv_icmp_ge (tgt := 14) dMO_isKind_7 (by decide) (fun c7 => ?_) (fun c7 => ?_)
    · have hr := tc_rb (tc_isN_big (n := 8) c7)
      refine tv_iconst (v := 0) dMO_isKind_14 (by decide) ?_
      exact tv_iret dMO_isKind_15 rfl rfl hr rfl
    · have hr := tc_rb (tc_isN_in (n := 8) c1 c7)
      refine tv_iconst (v := 1) dMO_isKind_10 (by decide) ?_
      refine tv_goto (tgt := 15) dMO_isKind_11 (by decide) ?_
      exact tv_iret dMO_isKind_15 rfl rfl hr rfl
set_option maxHeartbeats 4000000 in
set_option maxRecDepth 100000 in
theorem mm_isTool (τ : tcS) (x : Int32) : tc_M yMO_isTool cMO_isTool 2 (some .boolean) 0 [.inr (some 0), .inl x] (tm_h τ, some (.inl (tc_b2 (tc_isN x (τ.2.2.2 1)))), tm_h τ, 0, 0) := by
  refine tc_met (by decide) (Nat.le_of_ble_eq_true rfl) (Nat.le_of_eq tm_len) rfl ?_
  refine tv_iload_n dMO_isTool_0 rfl rfl ?_
  refine tv_if_lt (tgt := 16) dMO_isTool_1 (by decide) (fun c1 => ?_) (fun c1 => ?_)
  · have hr := tc_rb (tc_isN_neg (n := τ.2.2.2 1) c1)
    refine tv_iconst (v := 0) dMO_isTool_16 (by decide) ?_
    exact tv_iret dMO_isTool_17 rfl rfl hr rfl
  · refine tv_iload_n dMO_isTool_4 rfl rfl ?_
    refine tv_aload_n dMO_isTool_5 rfl rfl ?_
    refine gMO_75 rfl dMO_isTool_6 ?_
    refine tv_icmp_ge (tgt := 16) dMO_isTool_9 (by decide) (fun c9 => ?_) (fun c9 => ?_)
    · have hr := tc_rb (tc_isN_big c9)
      refine tv_iconst (v := 0) dMO_isTool_16 (by decide) ?_
      exact tv_iret dMO_isTool_17 rfl rfl hr rfl
    · have hr := tc_rb (tc_isN_in c1 c9)
      refine tv_iconst (v := 1) dMO_isTool_12 (by decide) ?_
      refine tv_goto (tgt := 17) dMO_isTool_13 (by decide) ?_
      exact tv_iret dMO_isTool_17 rfl rfl hr rfl
set_option maxHeartbeats 4000000 in
set_option maxRecDepth 100000 in
theorem mm_isPlatform (τ : tcS) (x : Int32) : tc_M yMO_isPlatform cMO_isPlatform 2 (some .boolean) 0 [.inr (some 0), .inl x] (tm_h τ, some (.inl (tc_b2 (tc_isN x (τ.2.2.2 0)))), tm_h τ, 0, 0) := by
  refine tc_met (by decide) (Nat.le_of_ble_eq_true rfl) (Nat.le_of_eq tm_len) rfl ?_
  refine tv_iload_n dMO_isPlatform_0 rfl rfl ?_
  refine tv_if_lt (tgt := 16) dMO_isPlatform_1 (by decide) (fun c1 => ?_) (fun c1 => ?_)
  · have hr := tc_rb (tc_isN_neg (n := τ.2.2.2 0) c1)
    refine tv_iconst (v := 0) dMO_isPlatform_16 (by decide) ?_
    exact tv_iret dMO_isPlatform_17 rfl rfl hr rfl
  · refine tv_iload_n dMO_isPlatform_4 rfl rfl ?_
    refine tv_aload_n dMO_isPlatform_5 rfl rfl ?_
    refine gMO_72 rfl dMO_isPlatform_6 ?_
    refine tv_icmp_ge (tgt := 16) dMO_isPlatform_9 (by decide) (fun c9 => ?_) (fun c9 => ?_)
    · have hr := tc_rb (tc_isN_big c9)
      refine tv_iconst (v := 0) dMO_isPlatform_16 (by decide) ?_
      exact tv_iret dMO_isPlatform_17 rfl rfl hr rfl
    · have hr := tc_rb (tc_isN_in c1 c9)
      refine tv_iconst (v := 1) dMO_isPlatform_12 (by decide) ?_
      refine tv_goto (tgt := 17) dMO_isPlatform_13 (by decide) ?_
      exact tv_iret dMO_isPlatform_17 rfl rfl hr rfl
set_option maxHeartbeats 4000000 in
set_option maxRecDepth 100000 in
theorem mm_at (h : List tcC) (t p : Nat) : tc_M yMO_at cMO_at 2 (some .int) 0 [.inl (nI t), .inl (nI p)] (h, some (.inl (nI (6 * t + p))), h, 0, 0) := by
  refine tc_met (by decide) (Nat.le_of_ble_eq_true rfl) (Nat.le_refl _) rfl ?_
  refine tv_bipush (v := 6) dMO_at_0 (by decide) ?_
  refine tv_iload_n dMO_at_2 rfl rfl ?_
  refine tv_imul dMO_at_3 ?_
  refine tv_top (b := .inl (nI (6 * t))) (congrArg Sum.inl (pk_mul 6 t)) ?_
  refine tv_iload_n dMO_at_4 rfl rfl ?_
  refine tv_iadd dMO_at_5 ?_
  refine tv_top (b := .inl (nI (6 * t + p))) (congrArg Sum.inl (nI_add _ _)) ?_
  exact tv_iret dMO_at_6 rfl rfl rfl rfl
set_option maxHeartbeats 4000000 in
set_option maxRecDepth 100000 in
theorem ml_lacking_2 (τ : tcS) (w : Int32) {p : Nat} (hp : p < 6) {K : tcK} : ∀ (n : Nat) (k : Nat), k + n = 32 → K.2.1 = some (.inl (tc_oI (tc_ff (fun c => bt w c && !bt (τ.1 0 p) c) n k))) → K.2.2.1 = tm_h τ → tc_V (cMO_lacking, 4, yMO_lacking.cls, some .int, 0, yMO_lacking.name) K 0 0 (tm_h τ) 2 [some (.inr (some 0)), some (.inl w), some (.inl (nI p)), some (.inl (nI k))] [] := by
  intro n
  induction n with
  | zero =>
    intro k hk hr hh
    refine tv_iload_n dMO_lacking_2 rfl rfl ?_
    refine tv_bipush (v := 32) dMO_lacking_3 (by decide) ?_
    refine tv_icmp_ge (tgt := 38) dMO_lacking_5 (by decide) (fun c5 => ?_) (fun c5 => absurd (nI_le (a := 32) (b := k) (by omega) (by omega)) c5)
    refine tv_iconst (v := -1) dMO_lacking_38 (by decide) ?_
    exact tv_iret dMO_lacking_39 rfl rfl hr hh
  | succ n ih =>
    intro k hk hr hh
    refine tv_iload_n dMO_lacking_2 rfl rfl ?_
    refine tv_bipush (v := 32) dMO_lacking_3 (by decide) ?_
    refine tv_icmp_ge (tgt := 38) dMO_lacking_5 (by decide) (fun c5 => absurd c5 (nI_ge (a := k) (b := 32) (by omega) (by omega))) (fun c5 => ?_)
    refine tv_iload_n dMO_lacking_8 rfl rfl ?_
    refine tv_iload_n dMO_lacking_9 rfl rfl ?_
    refine tv_ishr dMO_lacking_10 ?_
    refine tv_iconst (v := 1) dMO_lacking_11 (by decide) ?_
    refine tv_iand dMO_lacking_12 ?_
    refine tv_top (b := .inl (tc_b2 (bt w k))) (congrArg Sum.inl (tm_bit (by omega))) ?_
    refine tv_iconst (v := 1) dMO_lacking_13 (by decide) ?_
    refine tv_icmp_ne (tgt := 32) dMO_lacking_14 (by decide) (fun c14 => ?_) (fun c14 => ?_)
    · have e32 : (fun c => bt w c && !bt (τ.1 0 p) c) k = false := by simp [tc_b2_n1.mp c14]
      refine tv_iinc_3 dMO_lacking_32 (by decide) (nI_1 k) ?_
      refine tv_goto (tgt := 2) dMO_lacking_35 (by decide) ?_
      exact ih (k + 1) (by omega) (by rw [hr, tc_ff_no e32]) hh
    · have d14 := tc_b2_1.mp c14
      refine tv_aload_n dMO_lacking_17 rfl rfl ?_
      refine gMO_7 rfl dMO_lacking_18 ?_
      refine tv_iload_n dMO_lacking_21 rfl rfl ?_
      refine ldM_1 dMO_lacking_22 hp ?_
      refine tv_iload_n dMO_lacking_23 rfl rfl ?_
      refine tv_ishr dMO_lacking_24 ?_
      refine tv_iconst (v := 1) dMO_lacking_25 (by decide) ?_
      refine tv_iand dMO_lacking_26 ?_
      refine tv_top (b := .inl (tc_b2 (bt (τ.1 0 p) k))) (congrArg Sum.inl (tm_bit (by omega))) ?_
      refine tv_if_ne (tgt := 32) dMO_lacking_27 (by decide) (fun c27 => ?_) (fun c27 => ?_)
      · have e32 : (fun c => bt w c && !bt (τ.1 0 p) c) k = false := by simp [tc_b2_n.mp c27]
        refine tv_iinc_3 dMO_lacking_32 (by decide) (nI_1 k) ?_
        refine tv_goto (tgt := 2) dMO_lacking_35 (by decide) ?_
        exact ih (k + 1) (by omega) (by rw [hr, tc_ff_no e32]) hh
      · have e32 : (fun c => bt w c && !bt (τ.1 0 p) c) k = true := by simp [d14, tc_b2_0.mp c27]
        refine tv_iload_n dMO_lacking_30 rfl rfl ?_
        exact tv_iret dMO_lacking_31 rfl rfl (by rw [hr, tc_ff_yes e32]; rfl) hh
set_option maxHeartbeats 4000000 in
set_option maxRecDepth 100000 in
theorem mm_lacking (τ : tcS) (w : Int32) {p : Nat} (hp : p < 6) : tc_M yMO_lacking cMO_lacking 4 (some .int) 0 [.inr (some 0), .inl w, .inl (nI p)] (tm_h τ, some (.inl (tc_oI (tm_lk w (τ.1 0 p)))), tm_h τ, 0, 0) := by
  refine tc_met (by decide) (Nat.le_of_ble_eq_true rfl) (Nat.le_of_eq tm_len) rfl ?_
  refine tv_iconst (v := 0) dMO_lacking_0 (by decide) ?_
  refine tv_istN_3 dMO_lacking_1 (by decide) ?_
  exact ml_lacking_2 τ w hp 32 0 rfl rfl rfl
set_option maxHeartbeats 4000000 in
set_option maxRecDepth 100000 in
theorem mm_runsOn (τ : tcS) {t p : Nat} (ht : t < 24) (hp : p < 6) : tc_M yMO_runsOn cMO_runsOn 3 (some .boolean) 1 [.inr (some 0), .inl (nI t), .inl (nI p)] (tm_h τ, some (.inl (tc_b2 (tc_fit (τ.1 1 t) (τ.1 0 p)))), tm_h τ, 0, 0) := by
  refine tc_met (by decide) (Nat.le_of_ble_eq_true rfl) (Nat.le_of_eq tm_len) rfl ?_
  refine tv_aload_n dMO_runsOn_0 rfl rfl ?_
  refine tv_aload_n dMO_runsOn_1 rfl rfl ?_
  refine gMO_16 rfl dMO_runsOn_2 ?_
  refine tv_iload_n dMO_runsOn_5 rfl rfl ?_
  refine ldM_3 dMO_runsOn_6 ht ?_
  refine tv_iload_n dMO_runsOn_7 rfl rfl ?_
  refine tv_callV2r kMO_99 (by decide) (Nat.le_of_ble_eq_true rfl) ⟨rfl, rfl⟩ rfl (mm_lacking τ (τ.1 1 t) hp) ⟨Nat.zero_le _, Nat.zero_le _⟩ dMO_runsOn_8 ?_
  refine tv_iconst (v := -1) dMO_runsOn_11 (by decide) ?_
  refine tv_icmp_ne (tgt := 19) dMO_runsOn_12 (by decide) (fun c12 => ?_) (fun c12 => ?_)
  · have hr := tc_rb (b := tc_fit (τ.1 1 t) (τ.1 0 p)) (b' := false) (by
      cases e : tc_fit (τ.1 1 t) (τ.1 0 p)
      · rfl
      · exact absurd ((tc_oI_m1 (fun k q => tc_ff_bd q (by omega))).mpr (tm_lk_fit.mpr e)) c12)
    refine tv_iconst (v := 0) dMO_runsOn_19 (by decide) ?_
    exact tv_iret dMO_runsOn_20 rfl rfl hr rfl
  · have hr := tc_rb (tm_lk_fit.mp ((tc_oI_m1 (fun k q => tc_ff_bd q (by omega))).mp c12))
    refine tv_iconst (v := 1) dMO_runsOn_15 (by decide) ?_
    refine tv_goto (tgt := 20) dMO_runsOn_16 (by decide) ?_
    exact tv_iret dMO_runsOn_20 rfl rfl hr rfl
set_option maxHeartbeats 4000000 in
set_option maxRecDepth 100000 in
theorem mm_makesFor (τ : tcS) {t p : Nat} (ht : t < 24) (hp : p < 6) : tc_M yMO_makesFor cMO_makesFor 3 (some .boolean) 1 [.inr (some 0), .inl (nI t), .inl (nI p)] (tm_h τ, some (.inl (tc_b2 (tc_fit (τ.1 2 t) (τ.1 0 p)))), tm_h τ, 0, 0) := by
  refine tc_met (by decide) (Nat.le_of_ble_eq_true rfl) (Nat.le_of_eq tm_len) rfl ?_
  refine tv_aload_n dMO_makesFor_0 rfl rfl ?_
  refine tv_aload_n dMO_makesFor_1 rfl rfl ?_
  refine gMO_19 rfl dMO_makesFor_2 ?_
  refine tv_iload_n dMO_makesFor_5 rfl rfl ?_
  refine ldM_4 dMO_makesFor_6 ht ?_
  refine tv_iload_n dMO_makesFor_7 rfl rfl ?_
  refine tv_callV2r kMO_99 (by decide) (Nat.le_of_ble_eq_true rfl) ⟨rfl, rfl⟩ rfl (mm_lacking τ (τ.1 2 t) hp) ⟨Nat.zero_le _, Nat.zero_le _⟩ dMO_makesFor_8 ?_
  refine tv_iconst (v := -1) dMO_makesFor_11 (by decide) ?_
  refine tv_icmp_ne (tgt := 19) dMO_makesFor_12 (by decide) (fun c12 => ?_) (fun c12 => ?_)
  · have hr := tc_rb (b := tc_fit (τ.1 2 t) (τ.1 0 p)) (b' := false) (by
      cases e : tc_fit (τ.1 2 t) (τ.1 0 p)
      · rfl
      · exact absurd ((tc_oI_m1 (fun k q => tc_ff_bd q (by omega))).mpr (tm_lk_fit.mpr e)) c12)
    refine tv_iconst (v := 0) dMO_makesFor_19 (by decide) ?_
    exact tv_iret dMO_makesFor_20 rfl rfl hr rfl
  · have hr := tc_rb (tm_lk_fit.mp ((tc_oI_m1 (fun k q => tc_ff_bd q (by omega))).mp c12))
    refine tv_iconst (v := 1) dMO_makesFor_15 (by decide) ?_
    refine tv_goto (tgt := 20) dMO_makesFor_16 (by decide) ?_
    exact tv_iret dMO_makesFor_20 rfl rfl hr rfl
def tm_wf (τ : tcS) (t k : Nat) : Nat → Nat → Bool → Bool
  | 0, _, b => b
  | n + 1, i, b => tm_wf τ t k n (i + 1) (b || (decide (τ.2.1 3 i = t) && decide (τ.2.1 4 i = k)))
def tm_wants (τ : tcS) (t k : Nat) : Bool := tm_wf τ t k (τ.2.2.2 2) 0 false
theorem tm_wf_eq {τ : tcS} {t k : Nat} : ∀ {n i : Nat} {b : Bool}, tm_wf τ t k n i b = true ↔ b = true ∨ ∃ j, i ≤ j ∧ j < i + n ∧ τ.2.1 3 j = t ∧ τ.2.1 4 j = k
  | 0, i, b => ⟨Or.inl, fun h => h.elim id (fun ⟨j, h1, h2, _⟩ => absurd h2 (by omega))⟩
  | n + 1, i, b => by
    unfold tm_wf
    rw [tm_wf_eq, Bool.or_eq_true, Bool.and_eq_true, decide_eq_true_eq, decide_eq_true_eq]
    constructor
    · rintro ((h | h) | ⟨j, h1, h2, h3⟩)
      · exact Or.inl h
      · exact Or.inr ⟨i, Nat.le_refl _, by omega, h⟩
      · exact Or.inr ⟨j, by omega, by omega, h3⟩
    · rintro (h | ⟨j, h1, h2, h3⟩)
      · exact Or.inl (Or.inl h)
      · by_cases e : j = i
        · subst e
          exact Or.inl (Or.inr h3)
        · exact Or.inr ⟨j, by omega, by omega, h3⟩
theorem tm_wants_eq {τ : tcS} {t k : Nat} : tm_wants τ t k = true ↔ ∃ j, j < τ.2.2.2 2 ∧ τ.2.1 3 j = t ∧ τ.2.1 4 j = k := by
  unfold tm_wants
  rw [tm_wf_eq]
  constructor
  · rintro (h | ⟨j, h1, h2, h3⟩)
    · cases h
    · exact ⟨j, by omega, h3⟩
  · rintro ⟨j, h1, h3⟩
    exact Or.inr ⟨j, by omega, by omega, h3⟩
set_option maxHeartbeats 4000000 in
set_option maxRecDepth 100000 in
theorem ml_wants_5 (τ : tcS) (hI : tm_I τ) {t k : Nat} (ht : t < 24) (hk : k < 8) {K : tcK} : ∀ (n : Nat) (i : Nat) (b : Bool), i + n = τ.2.2.2 2 → K.2.1 = some (.inl (tc_b2 (tm_wf τ t k n i b))) → K.2.2.1 = tm_h τ → tc_V (cMO_wants, 5, yMO_wants.cls, some .boolean, 0, yMO_wants.name) K 0 0 (tm_h τ) 5 [some (.inr (some 0)), some (.inl (nI t)), some (.inl (nI k)), some (.inl (tc_b2 b)), some (.inl (nI i))] [] := by
  intro n
  induction n with
  | zero =>
    intro i b hi hr hh
    obtain ⟨iP, iT, iN, iA, iR, iK, iO, iQ, iF, iB, iW⟩ := id hI
    refine tv_iload dMO_wants_5 rfl ?_
    refine tv_aload_n dMO_wants_7 rfl rfl ?_
    refine gMO_85 rfl dMO_wants_8 ?_
    refine tv_icmp_ge (tgt := 52) dMO_wants_11 (by decide) (fun c11 => ?_) (fun c11 => absurd (nI_le (by omega) (by omega)) c11)
    refine tv_iload_n dMO_wants_52 rfl rfl ?_
    exact tv_iret dMO_wants_53 rfl (by cases b <;> rfl) hr hh
  | succ n ih =>
    intro i b hi hr hh
    obtain ⟨iP, iT, iN, iA, iR, iK, iO, iQ, iF, iB, iW⟩ := id hI
    have iW1 := iW i (by omega)
    refine tv_iload dMO_wants_5 rfl ?_
    refine tv_aload_n dMO_wants_7 rfl rfl ?_
    refine gMO_85 rfl dMO_wants_8 ?_
    refine tv_icmp_ge (tgt := 52) dMO_wants_11 (by decide) (fun c11 => absurd c11 (nI_ge (by omega) (by omega))) (fun c11 => ?_)
    refine tv_iload_n dMO_wants_14 rfl rfl ?_
    refine tv_if_ne (tgt := 40) dMO_wants_15 (by decide) (fun c15 => ?_) (fun c15 => ?_)
    · have e45 : (b || (decide (τ.2.1 3 i = t) && decide (τ.2.1 4 i = k))) = true := by simp [tc_b2_n.mp c15]
      refine tv_iconst (v := 1) dMO_wants_40 (by decide) ?_
      refine tv_goto (tgt := 45) dMO_wants_41 (by decide) ?_
      refine tv_top (b := .inl (tc_b2 (b || (decide (τ.2.1 3 i = t) && decide (τ.2.1 4 i = k))))) (congrArg Sum.inl (by rw [e45]; rfl)) ?_
      refine tv_istN_3 dMO_wants_45 (by decide) ?_
      refine tv_iinc_4 dMO_wants_46 (by decide) (nI_1 i) ?_
      refine tv_goto (tgt := 5) dMO_wants_49 (by decide) ?_
      exact ih (i + 1) _ (by omega) hr hh
    · have d15 := tc_b2_0.mp c15
      refine tv_aload_n dMO_wants_18 rfl rfl ?_
      refine gMO_28 rfl dMO_wants_19 ?_
      refine tv_iload dMO_wants_22 rfl ?_
      refine ldM_7 dMO_wants_24 (by omega) ?_
      refine tv_iload_n dMO_wants_25 rfl rfl ?_
      refine tv_icmp_ne (tgt := 44) dMO_wants_26 (by decide) (fun c26 => ?_) (fun c26 => ?_)
      · have d26 : ¬ τ.2.1 3 i = t := fun q => c26 (by rw [q])
        have e45 : (b || (decide (τ.2.1 3 i = t) && decide (τ.2.1 4 i = k))) = false := by simp [d15, d26]
        refine tv_iconst (v := 0) dMO_wants_44 (by decide) ?_
        refine tv_top (b := .inl (tc_b2 (b || (decide (τ.2.1 3 i = t) && decide (τ.2.1 4 i = k))))) (congrArg Sum.inl (by rw [e45]; rfl)) ?_
        refine tv_istN_3 dMO_wants_45 (by decide) ?_
        refine tv_iinc_4 dMO_wants_46 (by decide) (nI_1 i) ?_
        refine tv_goto (tgt := 5) dMO_wants_49 (by decide) ?_
        exact ih (i + 1) _ (by omega) hr hh
      · have d26 : τ.2.1 3 i = t := (nI_eq (by omega) (by omega)).mp c26
        refine tv_aload_n dMO_wants_29 rfl rfl ?_
        refine gMO_31 rfl dMO_wants_30 ?_
        refine tv_iload dMO_wants_33 rfl ?_
        refine ldM_8 dMO_wants_35 (by omega) ?_
        refine tv_iload_n dMO_wants_36 rfl rfl ?_
        refine tv_icmp_ne (tgt := 44) dMO_wants_37 (by decide) (fun c37 => ?_) (fun c37 => ?_)
        · have d37 : ¬ τ.2.1 4 i = k := fun q => c37 (by rw [q])
          have e45 : (b || (decide (τ.2.1 3 i = t) && decide (τ.2.1 4 i = k))) = false := by simp [d15, d37]
          refine tv_iconst (v := 0) dMO_wants_44 (by decide) ?_
          refine tv_top (b := .inl (tc_b2 (b || (decide (τ.2.1 3 i = t) && decide (τ.2.1 4 i = k))))) (congrArg Sum.inl (by rw [e45]; rfl)) ?_
          refine tv_istN_3 dMO_wants_45 (by decide) ?_
          refine tv_iinc_4 dMO_wants_46 (by decide) (nI_1 i) ?_
          refine tv_goto (tgt := 5) dMO_wants_49 (by decide) ?_
          exact ih (i + 1) _ (by omega) hr hh
        · have d37 : τ.2.1 4 i = k := (nI_eq (by omega) (by omega)).mp c37
          have e45 : (b || (decide (τ.2.1 3 i = t) && decide (τ.2.1 4 i = k))) = true := by simp [d26, d37]
          refine tv_iconst (v := 1) dMO_wants_40 (by decide) ?_
          refine tv_goto (tgt := 45) dMO_wants_41 (by decide) ?_
          refine tv_top (b := .inl (tc_b2 (b || (decide (τ.2.1 3 i = t) && decide (τ.2.1 4 i = k))))) (congrArg Sum.inl (by rw [e45]; rfl)) ?_
          refine tv_istN_3 dMO_wants_45 (by decide) ?_
          refine tv_iinc_4 dMO_wants_46 (by decide) (nI_1 i) ?_
          refine tv_goto (tgt := 5) dMO_wants_49 (by decide) ?_
          exact ih (i + 1) _ (by omega) hr hh
set_option maxHeartbeats 4000000 in
set_option maxRecDepth 100000 in
theorem mm_wants (τ : tcS) (hI : tm_I τ) {t k : Nat} (ht : t < 24) (hk : k < 8) : tc_M yMO_wants cMO_wants 5 (some .boolean) 0 [.inr (some 0), .inl (nI t), .inl (nI k)] (tm_h τ, some (.inl (tc_b2 (tm_wants τ t k))), tm_h τ, 0, 0) := by
  refine tc_met (by decide) (Nat.le_of_ble_eq_true rfl) (Nat.le_of_eq tm_len) rfl ?_
  refine tv_iconst (v := 0) dMO_wants_0 (by decide) ?_
  refine tv_istN_3 dMO_wants_1 (by decide) ?_
  refine tv_iconst (v := 0) dMO_wants_2 (by decide) ?_
  refine tv_ist_4 dMO_wants_3 (by decide) ?_
  exact ml_wants_5 τ hI ht hk (τ.2.2.2 2) 0 false (by omega) rfl rfl
def tm_pf (τ : tcS) (k : Nat) : Nat → Nat → Option Nat → Option Nat
  | 0, _, g => g
  | n + 1, i, g => tm_pf τ k n (i + 1) (if τ.2.1 2 i = k then some i else g)
def tm_place (τ : tcS) (k : Nat) : Option Nat := tm_pf τ k (τ.2.2.2 3) 0 none
set_option maxHeartbeats 4000000 in
set_option maxRecDepth 100000 in
theorem ml_place_4 (τ : tcS) (hI : tm_I τ) {k : Nat} (hk : k < 8) {K : tcK} : ∀ (n : Nat) (i : Nat) (g : Option Nat), i + n = τ.2.2.2 3 → K.2.1 = some (.inl (tc_oI (tm_pf τ k n i g))) → K.2.2.1 = tm_h τ → tc_V (cMO_place, 4, yMO_place.cls, some .int, 0, yMO_place.name) K 0 0 (tm_h τ) 4 [some (.inr (some 0)), some (.inl (nI k)), some (.inl (tc_oI g)), some (.inl (nI i))] [] := by
  intro n
  induction n with
  | zero =>
    intro i g hi hr hh
    obtain ⟨iP, iT, iN, iA, iR, iK, iO, iQ, iF, iB, iW⟩ := id hI
    refine tv_iload_n dMO_place_4 rfl rfl ?_
    refine tv_aload_n dMO_place_5 rfl rfl ?_
    refine gMO_92 rfl dMO_place_6 ?_
    refine tv_icmp_ge (tgt := 34) dMO_place_9 (by decide) (fun c9 => ?_) (fun c9 => absurd (nI_le (by omega) (by omega)) c9)
    refine tv_iload_n dMO_place_34 rfl rfl ?_
    exact tv_iret dMO_place_35 rfl rfl hr hh
  | succ n ih =>
    intro i g hi hr hh
    obtain ⟨iP, iT, iN, iA, iR, iK, iO, iQ, iF, iB, iW⟩ := id hI
    refine tv_iload_n dMO_place_4 rfl rfl ?_
    refine tv_aload_n dMO_place_5 rfl rfl ?_
    refine gMO_92 rfl dMO_place_6 ?_
    refine tv_icmp_ge (tgt := 34) dMO_place_9 (by decide) (fun c9 => absurd c9 (nI_ge (by omega) (by omega))) (fun c9 => ?_)
    refine tv_aload_n dMO_place_12 rfl rfl ?_
    refine gMO_34 rfl dMO_place_13 ?_
    refine tv_iload_n dMO_place_16 rfl rfl ?_
    refine ldM_9 dMO_place_17 (by omega) ?_
    refine tv_iload_n dMO_place_18 rfl rfl ?_
    refine tv_icmp_ne (tgt := 26) dMO_place_19 (by decide) (fun c19 => ?_) (fun c19 => ?_)
    · have e27 : (if τ.2.1 2 i = k then some i else g) = g := if_neg (fun q => c19 (by rw [q]))
      refine tv_iload_n dMO_place_26 rfl rfl ?_
      refine tv_top (b := .inl (tc_oI (if τ.2.1 2 i = k then some i else g))) (congrArg Sum.inl (by rw [e27] <;> rfl)) ?_
      refine tv_istN_2 dMO_place_27 (by decide) ?_
      refine tv_iinc_3 dMO_place_28 (by decide) (nI_1 i) ?_
      refine tv_goto (tgt := 4) dMO_place_31 (by decide) ?_
      exact ih (i + 1) _ (by omega) hr hh
    · have e27 : (if τ.2.1 2 i = k then some i else g) = some i := if_pos ((nI_eq (by have := iQ i (by omega); omega) (by omega)).mp c19)
      refine tv_iload_n dMO_place_22 rfl rfl ?_
      refine tv_goto (tgt := 27) dMO_place_23 (by decide) ?_
      refine tv_top (b := .inl (tc_oI (if τ.2.1 2 i = k then some i else g))) (congrArg Sum.inl (by rw [e27] <;> rfl)) ?_
      refine tv_istN_2 dMO_place_27 (by decide) ?_
      refine tv_iinc_3 dMO_place_28 (by decide) (nI_1 i) ?_
      refine tv_goto (tgt := 4) dMO_place_31 (by decide) ?_
      exact ih (i + 1) _ (by omega) hr hh
set_option maxHeartbeats 4000000 in
set_option maxRecDepth 100000 in
theorem mm_place (τ : tcS) (hI : tm_I τ) {k : Nat} (hk : k < 8) : tc_M yMO_place cMO_place 4 (some .int) 0 [.inr (some 0), .inl (nI k)] (tm_h τ, some (.inl (tc_oI (tm_place τ k))), tm_h τ, 0, 0) := by
  refine tc_met (by decide) (Nat.le_of_ble_eq_true rfl) (Nat.le_of_eq tm_len) rfl ?_
  refine tv_iconst (v := -1) dMO_place_0 (by decide) ?_
  refine tv_istN_2 dMO_place_1 (by decide) ?_
  refine tv_iconst (v := 0) dMO_place_2 (by decide) ?_
  refine tv_istN_3 dMO_place_3 (by decide) ?_
  exact ml_place_4 τ hI hk (τ.2.2.2 3) 0 none (by omega) rfl rfl
end
section
def tm_bl (τ : tcS) (u q : Nat) : Bool := (τ.2.2.1 3 (6 * u + q)).isSome
def tm_iq (τ : tcS) (u : Nat) : Nat → Nat → Bool → Bool
  | 0, _, b => b
  | n + 1, q, b => tm_iq τ u n (q + 1) (b || tm_bl τ u q)
def tm_th (τ : tcS) (k p : Nat) : Nat → Nat → Bool → Bool
  | 0, _, b => b
  | n + 1, u, b => if b = true then b else tm_th τ k p n (u + 1) (if τ.2.1 0 u = k ∧ tc_fit (τ.1 2 u) (τ.1 0 p) = true then tm_iq τ u (τ.2.2.2 0) 0 b else b)
def tm_there (τ : tcS) (k p : Nat) : Bool := tm_th τ k p (τ.2.2.2 1) 0 false
theorem tm_iq_eq {τ : tcS} {u : Nat} : ∀ {n q : Nat} {b : Bool}, tm_iq τ u n q b = true ↔ b = true ∨ ∃ j, q ≤ j ∧ j < q + n ∧ tm_bl τ u j = true
  | 0, q, b => ⟨Or.inl, fun h => h.elim id (fun ⟨j, h1, h2, _⟩ => absurd h2 (by omega))⟩
  | n + 1, q, b => by
    unfold tm_iq
    rw [tm_iq_eq, Bool.or_eq_true]
    constructor
    · rintro ((h | h) | ⟨j, h1, h2, h3⟩)
      · exact Or.inl h
      · exact Or.inr ⟨q, Nat.le_refl _, by omega, h⟩
      · exact Or.inr ⟨j, by omega, by omega, h3⟩
    · rintro (h | ⟨j, h1, h2, h3⟩)
      · exact Or.inl (Or.inl h)
      · by_cases e : j = q
        · subst e
          exact Or.inl (Or.inr h3)
        · exact Or.inr ⟨j, by omega, by omega, h3⟩
theorem tm_th_eq {τ : tcS} {k p : Nat} : ∀ {n u : Nat} {b : Bool}, tm_th τ k p n u b = true ↔ b = true ∨ ∃ v, u ≤ v ∧ v < u + n ∧ τ.2.1 0 v = k ∧ tc_fit (τ.1 2 v) (τ.1 0 p) = true ∧ ∃ q, q < τ.2.2.2 0 ∧ tm_bl τ v q = true
  | 0, u, b => ⟨Or.inl, fun h => h.elim id (fun ⟨j, h1, h2, _⟩ => absurd h2 (by omega))⟩
  | n + 1, u, b => by
    unfold tm_th
    by_cases hb : b = true
    · rw [if_pos hb]
      exact ⟨Or.inl, fun _ => hb⟩
    · rw [if_neg hb, tm_th_eq]
      have key : (if τ.2.1 0 u = k ∧ tc_fit (τ.1 2 u) (τ.1 0 p) = true then tm_iq τ u (τ.2.2.2 0) 0 b else b) = true ↔ τ.2.1 0 u = k ∧ tc_fit (τ.1 2 u) (τ.1 0 p) = true ∧ ∃ q, q < τ.2.2.2 0 ∧ tm_bl τ u q = true := by
        by_cases h : τ.2.1 0 u = k ∧ tc_fit (τ.1 2 u) (τ.1 0 p) = true
        · rw [if_pos h, tm_iq_eq]
          constructor
          · rintro (q | ⟨j, _, h2, h3⟩)
            · exact absurd q hb
            · exact ⟨h.1, h.2, j, by omega, h3⟩
          · rintro ⟨_, _, j, h2, h3⟩
            exact Or.inr ⟨j, by omega, by omega, h3⟩
        · rw [if_neg h]
          exact ⟨fun q => absurd q hb, fun q => absurd ⟨q.1, q.2.1⟩ h⟩
      rw [key]
      constructor
      · rintro (h | ⟨v, h1, h2, h3⟩)
        · exact Or.inr ⟨u, Nat.le_refl _, by omega, h⟩
        · exact Or.inr ⟨v, by omega, by omega, h3⟩
      · rintro (h | ⟨v, h1, h2, h3⟩)
        · exact absurd h hb
        · by_cases e : v = u
          · subst e
            exact Or.inl h3
          · exact Or.inr ⟨v, by omega, by omega, h3⟩
theorem tm_there_eq {τ : tcS} {k p : Nat} : tm_there τ k p = true ↔ ∃ v q, v < τ.2.2.2 1 ∧ q < τ.2.2.2 0 ∧ τ.2.1 0 v = k ∧ tc_fit (τ.1 2 v) (τ.1 0 p) = true ∧ tm_bl τ v q = true := by
  unfold tm_there
  rw [tm_th_eq]
  constructor
  · rintro (h | ⟨v, h1, h2, h3, h4, q, h5, h6⟩)
    · cases h
    · exact ⟨v, q, by omega, h5, h3, h4, h6⟩
  · rintro ⟨v, q, h1, h5, h3, h4, h6⟩
    exact Or.inr ⟨v, by omega, by omega, h3, h4, q, h5, h6⟩
def tm_miss (τ : tcS) (t p : Nat) : Option Nat := tc_ff (fun k => tm_wants τ t k && !tm_there τ k p) 8 0
set_option maxHeartbeats 4000000 in
set_option maxRecDepth 100000 in
theorem ml_isThere_45 (τ : tcS) (hI : tm_I τ) {u : Nat} (hu : u < 24) {x1 x2 : Option tcV} (hx1 : x1 = none ∨ ∃ y, x1 = some (.inl y)) (hx2 : x2 = none ∨ ∃ y, x2 = some (.inl y)) {K : tcK} : ∀ (n : Nat) (q : Nat) (b : Bool), q + n = τ.2.2.2 0 → tc_V (cMO_isThere, 6, yMO_isThere.cls, some .boolean, 2, yMO_isThere.name) K 0 0 (tm_h τ) 85 [some (.inr (some 0)), x1, x2, some (.inl (tc_b2 (tm_iq τ u n q b))), some (.inl (nI u)), none] [] → tc_V (cMO_isThere, 6, yMO_isThere.cls, some .boolean, 2, yMO_isThere.name) K 0 0 (tm_h τ) 45 [some (.inr (some 0)), x1, x2, some (.inl (tc_b2 b)), some (.inl (nI u)), some (.inl (nI q))] [] := by
  intro n
  induction n with
  | zero =>
    intro q b hq hx
    obtain ⟨iP, iT, iN, iA, iR, iK, iO, iQ, iF, iB, iW⟩ := id hI
    refine tv_iload dMO_isThere_45 rfl ?_
    refine tv_aload_n dMO_isThere_47 rfl rfl ?_
    refine gMO_72 rfl dMO_isThere_48 ?_
    refine tv_icmp_ge (tgt := 85) dMO_isThere_51 (by decide) (fun c51 => ?_) (fun c51 => absurd (nI_le (by omega) (by omega)) c51)
    refine tv_fg_5 ?_
    exact hx
  | succ n ih =>
    intro q b hq hx
    obtain ⟨iP, iT, iN, iA, iR, iK, iO, iQ, iF, iB, iW⟩ := id hI
    refine tv_iload dMO_isThere_45 rfl ?_
    refine tv_aload_n dMO_isThere_47 rfl rfl ?_
    refine gMO_72 rfl dMO_isThere_48 ?_
    refine tv_icmp_ge (tgt := 85) dMO_isThere_51 (by decide) (fun c51 => absurd c51 (nI_ge (by omega) (by omega))) (fun c51 => ?_)
    refine tv_iload_n dMO_isThere_54 rfl rfl ?_
    refine tv_if_ne (tgt := 73) dMO_isThere_55 (by decide) (fun c55 => ?_) (fun c55 => ?_)
    · have e78 : (b || tm_bl τ u q) = true := by simp [tc_b2_n.mp c55]
      refine tv_iconst (v := 1) dMO_isThere_73 (by decide) ?_
      refine tv_goto (tgt := 78) dMO_isThere_74 (by decide) ?_
      refine tv_top (b := .inl (tc_b2 (b || tm_bl τ u q))) (congrArg Sum.inl (by rw [e78] <;> rfl)) ?_
      refine tv_istN_3 dMO_isThere_78 (by decide) ?_
      refine tv_iinc_5 dMO_isThere_79 (by decide) (nI_1 q) ?_
      refine tv_goto (tgt := 45) dMO_isThere_82 (by decide) ?_
      exact ih (q + 1) _ (by omega) hx
    · have d55 := tc_b2_0.mp c55
      refine tv_aload_n dMO_isThere_58 rfl rfl ?_
      refine gMO_50 rfl dMO_isThere_59 ?_
      refine tv_iload dMO_isThere_62 rfl ?_
      refine tv_iload dMO_isThere_64 rfl ?_
      refine tv_callS2r kMO_106 (by decide) (Nat.le_of_ble_eq_true rfl) ⟨by rcases hx1 with rfl | ⟨y, rfl⟩ <;> rcases hx2 with rfl | ⟨z, rfl⟩ <;> rfl, rfl⟩ (mm_at (tm_h τ) u q) ⟨Nat.zero_le _, Nat.zero_le _⟩ dMO_isThere_66 ?_
      refine ldM_14 dMO_isThere_69 (by omega) ?_
      refine tv_if_eq (tgt := 77) dMO_isThere_70 (by decide) (fun c70 => ?_) (fun c70 => ?_)
      · have e78 : (b || tm_bl τ u q) = false := by simp [d55, tm_bl, tc_b2_0.mp c70]
        refine tv_iconst (v := 0) dMO_isThere_77 (by decide) ?_
        refine tv_top (b := .inl (tc_b2 (b || tm_bl τ u q))) (congrArg Sum.inl (by rw [e78] <;> rfl)) ?_
        refine tv_istN_3 dMO_isThere_78 (by decide) ?_
        refine tv_iinc_5 dMO_isThere_79 (by decide) (nI_1 q) ?_
        refine tv_goto (tgt := 45) dMO_isThere_82 (by decide) ?_
        exact ih (q + 1) _ (by omega) hx
      · have e78 : (b || tm_bl τ u q) = true := by simp [tm_bl, tc_b2_n.mp c70]
        refine tv_iconst (v := 1) dMO_isThere_73 (by decide) ?_
        refine tv_goto (tgt := 78) dMO_isThere_74 (by decide) ?_
        refine tv_top (b := .inl (tc_b2 (b || tm_bl τ u q))) (congrArg Sum.inl (by rw [e78] <;> rfl)) ?_
        refine tv_istN_3 dMO_isThere_78 (by decide) ?_
        refine tv_iinc_5 dMO_isThere_79 (by decide) (nI_1 q) ?_
        refine tv_goto (tgt := 45) dMO_isThere_82 (by decide) ?_
        exact ih (q + 1) _ (by omega) hx
set_option maxHeartbeats 4000000 in
set_option maxRecDepth 100000 in
theorem ml_isThere_5 (τ : tcS) (hI : tm_I τ) {k p : Nat} (hk : k < 8) (hp : p < 6) {K : tcK} : ∀ (n : Nat) (u : Nat) (b : Bool), u + n = τ.2.2.2 1 → K.2.1 = some (.inl (tc_b2 (tm_th τ k p n u b))) → K.2.2.1 = tm_h τ → tc_V (cMO_isThere, 6, yMO_isThere.cls, some .boolean, 2, yMO_isThere.name) K 0 0 (tm_h τ) 5 [some (.inr (some 0)), some (.inl (nI k)), some (.inl (nI p)), some (.inl (tc_b2 b)), some (.inl (nI u)), none] [] := by
  intro n
  induction n with
  | zero =>
    intro u b hu hr hh
    obtain ⟨iP, iT, iN, iA, iR, iK, iO, iQ, iF, iB, iW⟩ := id hI
    refine tv_iload dMO_isThere_5 rfl ?_
    refine tv_aload_n dMO_isThere_7 rfl rfl ?_
    refine gMO_75 rfl dMO_isThere_8 ?_
    refine tv_icmp_ge (tgt := 91) dMO_isThere_11 (by decide) (fun c11 => ?_) (fun c11 => absurd (nI_le (by omega) (by omega)) c11)
    refine tv_iload_n dMO_isThere_91 rfl rfl ?_
    exact tv_iret dMO_isThere_92 rfl (by cases b <;> rfl) hr hh
  | succ n ih =>
    intro u b hu hr hh
    obtain ⟨iP, iT, iN, iA, iR, iK, iO, iQ, iF, iB, iW⟩ := id hI
    refine tv_iload dMO_isThere_5 rfl ?_
    refine tv_aload_n dMO_isThere_7 rfl rfl ?_
    refine gMO_75 rfl dMO_isThere_8 ?_
    refine tv_icmp_ge (tgt := 91) dMO_isThere_11 (by decide) (fun c11 => absurd c11 (nI_ge (by omega) (by omega))) (fun c11 => ?_)
    refine tv_iload_n dMO_isThere_14 rfl rfl ?_
    refine tv_if_ne (tgt := 91) dMO_isThere_15 (by decide) (fun c15 => ?_) (fun c15 => ?_)
    · have e15 : tm_th τ k p (n + 1) u b = b := by rw [tm_th, if_pos (tc_b2_n.mp c15)]
      refine tv_iload_n dMO_isThere_91 rfl rfl ?_
      exact tv_iret dMO_isThere_92 rfl (by cases b <;> rfl) (by rw [hr, e15]) hh
    · have d15 := tc_b2_0.mp c15
      refine tv_aload_n dMO_isThere_18 rfl rfl ?_
      refine gMO_13 rfl dMO_isThere_19 ?_
      refine tv_iload dMO_isThere_22 rfl ?_
      refine ldM_2 dMO_isThere_24 (by omega) ?_
      refine tv_iload_n dMO_isThere_25 rfl rfl ?_
      refine tv_icmp_ne (tgt := 85) dMO_isThere_26 (by decide) (fun c26 => ?_) (fun c26 => ?_)
      · have d26 : ¬ τ.2.1 0 u = k := fun q => c26 (by rw [q])
        have h9 := ih (u + 1) b (by omega) (by rw [hr, tm_th, if_neg (by rw [d15]; simp), if_neg (fun q => d26 q.1)]) hh
        refine tv_iinc_4 dMO_isThere_85 (by decide) (nI_1 u) ?_
        refine tv_goto (tgt := 5) dMO_isThere_88 (by decide) ?_
        exact h9
      · have d26 : τ.2.1 0 u = k := (nI_eq (by have := iK u (by omega); omega) (by omega)).mp c26
        refine tv_aload_n dMO_isThere_29 rfl rfl ?_
        refine tv_iload dMO_isThere_30 rfl ?_
        refine tv_iload_n dMO_isThere_32 rfl rfl ?_
        refine tv_callV2r kMO_103 (by decide) (Nat.le_of_ble_eq_true rfl) ⟨rfl, rfl⟩ rfl (mm_makesFor τ (by omega) hp) ⟨Nat.zero_le _, Nat.zero_le _⟩ dMO_isThere_33 ?_
        refine tv_if_ne (tgt := 42) dMO_isThere_36 (by decide) (fun c36 => ?_) (fun c36 => ?_)
        · refine tv_iconst (v := 0) dMO_isThere_42 (by decide) ?_
          refine tv_ist_5 dMO_isThere_43 (by decide) ?_
          refine ml_isThere_45 τ hI (by omega) (Or.inr ⟨_, rfl⟩) (Or.inr ⟨_, rfl⟩) (τ.2.2.2 0) 0 b (by omega) ?_
          have h9 := ih (u + 1) (tm_iq τ u (τ.2.2.2 0) 0 b) (by omega) (by rw [hr, tm_th, if_neg (by rw [d15]; simp), if_pos ⟨d26, tc_b2_n.mp c36⟩]) hh
          refine tv_iinc_4 dMO_isThere_85 (by decide) (nI_1 u) ?_
          refine tv_goto (tgt := 5) dMO_isThere_88 (by decide) ?_
          exact h9
        · have h9 := ih (u + 1) b (by omega) (by rw [hr, tm_th, if_neg (by rw [d15]; simp), if_neg (fun q => by rw [tc_b2_0.mp c36] at q; exact absurd q.2 (by simp))]) hh
          refine tv_goto (tgt := 85) dMO_isThere_39 (by decide) ?_
          refine tv_iinc_4 dMO_isThere_85 (by decide) (nI_1 u) ?_
          refine tv_goto (tgt := 5) dMO_isThere_88 (by decide) ?_
          exact h9
set_option maxHeartbeats 4000000 in
set_option maxRecDepth 100000 in
theorem mm_isThere (τ : tcS) (hI : tm_I τ) {k p : Nat} (hk : k < 8) (hp : p < 6) : tc_M yMO_isThere cMO_isThere 6 (some .boolean) 2 [.inr (some 0), .inl (nI k), .inl (nI p)] (tm_h τ, some (.inl (tc_b2 (tm_there τ k p))), tm_h τ, 0, 0) := by
  refine tc_met (by decide) (Nat.le_of_ble_eq_true rfl) (Nat.le_of_eq tm_len) rfl ?_
  refine tv_iconst (v := 0) dMO_isThere_0 (by decide) ?_
  refine tv_istN_3 dMO_isThere_1 (by decide) ?_
  refine tv_iconst (v := 0) dMO_isThere_2 (by decide) ?_
  refine tv_ist_4 dMO_isThere_3 (by decide) ?_
  exact ml_isThere_5 τ hI hk hp (τ.2.2.2 1) 0 false (by omega) rfl rfl
set_option maxHeartbeats 4000000 in
set_option maxRecDepth 100000 in
theorem ml_missing_2 (τ : tcS) (hI : tm_I τ) {t p : Nat} (ht : t < 24) (hp : p < 6) {K : tcK} : ∀ (n : Nat) (k : Nat), k + n = 8 → K.2.1 = some (.inl (tc_oI (tc_ff (fun k => tm_wants τ t k && !tm_there τ k p) n k))) → K.2.2.1 = tm_h τ → tc_V (cMO_missing, 4, yMO_missing.cls, some .int, 3, yMO_missing.name) K 0 0 (tm_h τ) 2 [some (.inr (some 0)), some (.inl (nI t)), some (.inl (nI p)), some (.inl (nI k))] [] := by
  intro n
  induction n with
  | zero =>
    intro k hk hr hh
    refine tv_iload_n dMO_missing_2 rfl rfl ?_
    refine tv_bipush (v := 8) dMO_missing_3 (by decide) ?_
    refine tv_icmp_ge (tgt := 34) dMO_missing_5 (by decide) (fun c5 => ?_) (fun c5 => absurd (nI_le (a := 8) (b := k) (by omega) (by omega)) c5)
    refine tv_iconst (v := -1) dMO_missing_34 (by decide) ?_
    exact tv_iret dMO_missing_35 rfl rfl hr hh
  | succ n ih =>
    intro k hk hr hh
    refine tv_iload_n dMO_missing_2 rfl rfl ?_
    refine tv_bipush (v := 8) dMO_missing_3 (by decide) ?_
    refine tv_icmp_ge (tgt := 34) dMO_missing_5 (by decide) (fun c5 => absurd c5 (nI_ge (a := k) (b := 8) (by omega) (by omega))) (fun c5 => ?_)
    refine tv_aload_n dMO_missing_8 rfl rfl ?_
    refine tv_iload_n dMO_missing_9 rfl rfl ?_
    refine tv_iload_n dMO_missing_10 rfl rfl ?_
    refine tv_callV2r kMO_88 (by decide) (Nat.le_of_ble_eq_true rfl) ⟨rfl, rfl⟩ rfl (mm_wants τ hI ht (by omega)) ⟨Nat.zero_le _, Nat.zero_le _⟩ dMO_missing_11 ?_
    refine tv_if_eq (tgt := 28) dMO_missing_14 (by decide) (fun c14 => ?_) (fun c14 => ?_)
    · have e28 : (fun k => tm_wants τ t k && !tm_there τ k p) k = false := by simp [tc_b2_0.mp c14]
      refine tv_iinc_3 dMO_missing_28 (by decide) (nI_1 k) ?_
      refine tv_goto (tgt := 2) dMO_missing_31 (by decide) ?_
      exact ih (k + 1) (by omega) (by rw [hr, tc_ff_no e28]) hh
    · have d14 := tc_b2_n.mp c14
      refine tv_aload_n dMO_missing_17 rfl rfl ?_
      refine tv_iload_n dMO_missing_18 rfl rfl ?_
      refine tv_iload_n dMO_missing_19 rfl rfl ?_
      refine tv_callV2r kMO_109 (by decide) (Nat.le_of_ble_eq_true rfl) ⟨rfl, rfl⟩ rfl (mm_isThere τ hI (by omega) hp) ⟨Nat.zero_le _, Nat.zero_le _⟩ dMO_missing_20 ?_
      refine tv_if_ne (tgt := 28) dMO_missing_23 (by decide) (fun c23 => ?_) (fun c23 => ?_)
      · have e28 : (fun k => tm_wants τ t k && !tm_there τ k p) k = false := by simp [tc_b2_n.mp c23]
        refine tv_iinc_3 dMO_missing_28 (by decide) (nI_1 k) ?_
        refine tv_goto (tgt := 2) dMO_missing_31 (by decide) ?_
        exact ih (k + 1) (by omega) (by rw [hr, tc_ff_no e28]) hh
      · have e28 : (fun k => tm_wants τ t k && !tm_there τ k p) k = true := by simp [d14, tc_b2_0.mp c23]
        refine tv_iload_n dMO_missing_26 rfl rfl ?_
        exact tv_iret dMO_missing_27 rfl rfl (by rw [hr, tc_ff_yes e28]; rfl) hh
set_option maxHeartbeats 4000000 in
set_option maxRecDepth 100000 in
theorem mm_missing (τ : tcS) (hI : tm_I τ) {t p : Nat} (ht : t < 24) (hp : p < 6) : tc_M yMO_missing cMO_missing 4 (some .int) 3 [.inr (some 0), .inl (nI t), .inl (nI p)] (tm_h τ, some (.inl (tc_oI (tm_miss τ t p))), tm_h τ, 0, 0) := by
  refine tc_met (by decide) (Nat.le_of_ble_eq_true rfl) (Nat.le_of_eq tm_len) rfl ?_
  refine tv_iconst (v := 0) dMO_missing_0 (by decide) ?_
  refine tv_istN_3 dMO_missing_1 (by decide) ?_
  exact ml_missing_2 τ hI ht hp 8 0 rfl rfl rfl
end
section
theorem tc_up_rel {α : Type} {R : α → α → Prop} (h0 : ∀ a, R a a) (ht : ∀ a b c, R a b → R b c → R a c) {f : Nat → α → α} (hf : ∀ j a, R a (f j a)) : ∀ (n j : Nat) (a : α), R a (tc_up f n j a)
  | 0, _, a => h0 a
  | n + 1, j, a => ht _ _ _ (hf j a) (tc_up_rel h0 ht hf n (j + 1) (f j a))
/-- all but 'built' is as it was -/
def tm_sb (τ ρ : tcS) : Prop := ρ.1 = τ.1 ∧ ρ.2.1 = τ.2.1 ∧ (∀ k, k ≠ 3 → ρ.2.2.1 k = τ.2.2.1 k) ∧ ρ.2.2.2 = τ.2.2.2
theorem tm_sb.rf {τ : tcS} : tm_sb τ τ := ⟨rfl, rfl, fun _ _ => rfl, rfl⟩
theorem tm_sb.tr {τ ρ κ : tcS} (h : tm_sb τ ρ) (k : tm_sb ρ κ) : tm_sb τ κ := ⟨k.1.trans h.1, k.2.1.trans h.2.1, fun j hj => (k.2.2.1 j hj).trans (h.2.2.1 j hj), k.2.2.2.trans h.2.2.2⟩
theorem tm_sb.put (τ : tcS) (f : Nat → Option Nat) : tm_sb τ (tc_s3 τ 3 f) := ⟨rfl, rfl, fun k hk => by
  show va_up τ.2.2.1 3 f k = _
  simp [va_up, hk], rfl⟩
theorem tm_sb.I {τ ρ : tcS} (h : tm_sb τ ρ) (hI : tm_I τ) : tm_I ρ := by
  unfold tm_I
  rw [h.1, h.2.1, h.2.2.1 0 (by omega), h.2.2.2]
  exact hI
def tm_clr (j : Nat) (ρ : tcS) : tcS := tc_s3 ρ 3 (va_up (ρ.2.2.1 3) j none)
def tm_set (t p : Nat) (ρ : tcS) : tcS := tc_s3 ρ 3 (va_up (ρ.2.2.1 3) (6 * t + p) (some 0))
def tm_bs (t p : Nat) (a : tcS × Bool) : tcS × Bool := if tm_bl a.1 t p = false ∧ tc_fit (a.1.1 1 t) (a.1.1 0 p) = true ∧ tm_miss a.1 t p = none then (tm_set t p a.1, true) else a
def tm_bt (t : Nat) (a : tcS × Bool) : tcS × Bool := tc_up (tm_bs t) (a.1.2.2.2 0) 0 a
def tm_bp (ρ : tcS) : tcS × Bool := tc_up tm_bt (ρ.2.2.2 1) 0 (ρ, false)
def tm_bd : Nat → tcS × Bool → tcS
  | 0, a => a.1
  | n + 1, a => if a.2 = true then tm_bd n (tm_bp a.1) else a.1
def tm_build (τ : tcS) : tcS := tm_bd 145 (tc_up tm_clr 144 0 τ, true)
def cz (f : Nat → Option Nat) : Nat → Nat
  | 0 => 0
  | n + 1 => cz f n + (if f n = none then 1 else 0)
theorem cz_le (f : Nat → Option Nat) : ∀ n, cz f n ≤ n
  | 0 => Nat.le_refl _
  | n + 1 => by
    have := cz_le f n
    unfold cz
    split <;> omega
theorem cz_up {f : Nat → Option Nat} {j v : Nat} : ∀ {n : Nat}, cz (va_up f j (some v)) n ≤ cz f n ∧ (j < n → f j = none → cz (va_up f j (some v)) n < cz f n)
  | 0 => ⟨Nat.le_refl _, fun h => absurd h (by omega)⟩
  | n + 1 => by
    obtain ⟨h1, h2⟩ := cz_up (f := f) (j := j) (v := v) (n := n)
    unfold cz
    by_cases e : n = j
    · subst e
      rw [if_neg (by simp [va_up])]
      refine ⟨by omega, fun _ h => ?_⟩
      rw [if_pos h]
      omega
    · have e2 : va_up f j (some v) n = f n := by simp [va_up, e]
      rw [e2]
      refine ⟨by omega, fun h3 h4 => ?_⟩
      have := h2 (by omega) h4
      omega
/-- how a walk over tools and platforms moves -/
def tm_mv (a b : tcS × Bool) : Prop := tm_sb a.1 b.1 ∧ cz (b.1.2.2.1 3) 144 ≤ cz (a.1.2.2.1 3) 144 ∧ (b.2 = true → a.2 = true ∨ cz (b.1.2.2.1 3) 144 < cz (a.1.2.2.1 3) 144)
theorem tm_mv.rf (a : tcS × Bool) : tm_mv a a := ⟨tm_sb.rf, Nat.le_refl _, Or.inl⟩
theorem tm_mv.tr (a b c : tcS × Bool) (h : tm_mv a b) (k : tm_mv b c) : tm_mv a c := ⟨h.1.tr k.1, Nat.le_trans k.2.1 h.2.1, fun q => by
  rcases k.2.2 q with q | q
  · rcases h.2.2 q with q | q
    · exact Or.inl q
    · exact Or.inr (Nat.lt_of_le_of_lt k.2.1 q)
  · exact Or.inr (Nat.lt_of_lt_of_le q h.2.1)⟩
theorem tm_bs_mv {t p : Nat} (h : 6 * t + p < 144) (a : tcS × Bool) : tm_mv a (tm_bs t p a) := by
  unfold tm_bs
  split
  · rename_i q
    have hn : a.1.2.2.1 3 (6 * t + p) = none := by
      cases e : a.1.2.2.1 3 (6 * t + p)
      · rfl
      · have := q.1
        unfold tm_bl at this
        rw [e] at this
        cases this
    have hc := cz_up (f := a.1.2.2.1 3) (j := 6 * t + p) (v := 0) (n := 144)
    exact ⟨tm_sb.put _ _, hc.1, fun _ => Or.inr (hc.2 h hn)⟩
  · exact tm_mv.rf a
theorem tm_bt_mv {t : Nat} (ht : t < 24) (a : tcS × Bool) (hP : a.1.2.2.2 0 ≤ 6) : ∀ (n p : Nat) (b : tcS × Bool), p + n ≤ 6 → tm_mv b (tc_up (tm_bs t) n p b)
  | 0, _, b, _ => tm_mv.rf b
  | n + 1, p, b, h => tm_mv.tr _ _ _ (tm_bs_mv (by omega) b) (tm_bt_mv ht a hP n (p + 1) (tm_bs t p b) (by omega))
theorem tm_bp_mv : ∀ (n t : Nat) (a : tcS × Bool), a.1.2.2.2 0 ≤ 6 → t + n ≤ 24 → tm_mv a (tc_up tm_bt n t a)
  | 0, _, a, _, _ => tm_mv.rf a
  | n + 1, t, a, hP, h => by
    have h1 : tm_mv a (tm_bt t a) := tm_bt_mv (by omega) a hP _ 0 a (by omega)
    exact tm_mv.tr _ _ _ h1 (tm_bp_mv n (t + 1) (tm_bt t a) (by rw [h1.1.2.2.2]; exact hP) (by omega))
theorem tm_clr_sb : ∀ (n j : Nat) (ρ : tcS), tm_sb ρ (tc_up tm_clr n j ρ) := tc_up_rel (R := tm_sb) (fun _ => tm_sb.rf) (fun _ _ _ h k => h.tr k) (fun j a => tm_sb.put a _)
theorem tm_bd_sb : ∀ (n : Nat) (a : tcS × Bool), a.1.2.2.2 0 ≤ 6 → a.1.2.2.2 1 ≤ 24 → tm_sb a.1 (tm_bd n a)
  | 0, _, _, _ => tm_sb.rf
  | n + 1, a, hP, hT => by
    unfold tm_bd
    split
    · have h1 := (tm_bp_mv (a.1.2.2.2 1) 0 (a.1, false) hP (by omega)).1
      have h2 := tm_bd_sb n (tm_bp a.1) (by rw [show (tm_bp a.1).1.2.2.2 = a.1.2.2.2 from h1.2.2.2]; exact hP) (by rw [show (tm_bp a.1).1.2.2.2 = a.1.2.2.2 from h1.2.2.2]; exact hT)
      exact tm_sb.tr h1 h2
    · exact tm_sb.rf
theorem tm_build_sb {τ : tcS} (hI : tm_I τ) : tm_sb τ (tm_build τ) := by
  have h1 := tm_clr_sb 144 0 τ
  refine h1.tr (tm_bd_sb 145 (tc_up tm_clr 144 0 τ, true) ?_ ?_)
  · show (tc_up tm_clr 144 0 τ).2.2.2 0 ≤ 6
    rw [h1.2.2.2]
    exact hI.1
  · show (tc_up tm_clr 144 0 τ).2.2.2 1 ≤ 24
    rw [h1.2.2.2]
    exact hI.2.1
set_option maxHeartbeats 4000000 in
set_option maxRecDepth 100000 in
theorem ml_build_2  {K : tcK} : ∀ (n : Nat) (j : Nat) (ρ : tcS), j + n = 144 → tc_V (cMO_build, 4, yMO_build.cls, none, 4, yMO_build.name) K 0 0 (tm_h (tc_up tm_clr n j ρ)) 24 [some (.inr (some 0)), none, none, none] [] → tc_V (cMO_build, 4, yMO_build.cls, none, 4, yMO_build.name) K 0 0 (tm_h ρ) 2 [some (.inr (some 0)), some (.inl (nI j)), none, none] [] := by
  intro n
  induction n with
  | zero =>
    intro j ρ hj hx
    refine tv_iload_n dMO_build_2 rfl rfl ?_
    refine tv_aload_n dMO_build_3 rfl rfl ?_
    refine gMO_50 rfl dMO_build_4 ?_
    refine lenM_14 dMO_build_7 ?_
    refine tv_icmp_ge (tgt := 24) dMO_build_8 (by decide) (fun c8 => ?_) (fun c8 => absurd (nI_le (a := 144) (b := j) (by omega) (by omega)) c8)
    refine tv_fg_1 ?_
    exact hx
  | succ n ih =>
    intro j ρ hj hx
    refine tv_iload_n dMO_build_2 rfl rfl ?_
    refine tv_aload_n dMO_build_3 rfl rfl ?_
    refine gMO_50 rfl dMO_build_4 ?_
    refine lenM_14 dMO_build_7 ?_
    refine tv_icmp_ge (tgt := 24) dMO_build_8 (by decide) (fun c8 => absurd c8 (nI_ge (a := j) (b := 144) (by omega) (by omega))) (fun c8 => ?_)
    refine tv_aload_n dMO_build_11 rfl rfl ?_
    refine gMO_50 rfl dMO_build_12 ?_
    refine tv_iload_n dMO_build_15 rfl rfl ?_
    refine tv_iconst (v := 0) dMO_build_16 (by decide) ?_
    refine stM_14 none dMO_build_17 (by omega) ?_
    refine tv_iinc_1 dMO_build_18 (by decide) (nI_1 j) ?_
    refine tv_goto (tgt := 2) dMO_build_21 (by decide) ?_
    exact ih (j + 1) (tm_clr j ρ) (by omega) hx
set_option maxHeartbeats 4000000 in
set_option maxRecDepth 100000 in
theorem ml_build_44 {t : Nat} (ht : t < 24) {K : tcK} : ∀ (n : Nat) (p : Nat) (a : tcS × Bool), tm_I a.1 → p + n = a.1.2.2.2 0 → tc_V (cMO_build, 4, yMO_build.cls, none, 4, yMO_build.name) K 0 0 (tm_h (tc_up (tm_bs t) n p a).1) 106 [some (.inr (some 0)), some (.inl (tc_b2 (tc_up (tm_bs t) n p a).2)), some (.inl (nI t)), none] [] → tc_V (cMO_build, 4, yMO_build.cls, none, 4, yMO_build.name) K 0 0 (tm_h a.1) 44 [some (.inr (some 0)), some (.inl (tc_b2 a.2)), some (.inl (nI t)), some (.inl (nI p))] [] := by
  intro n
  induction n with
  | zero =>
    intro p a hI hp hx
    obtain ⟨iP, iT, iN, iA, iR, iK, iO, iQ, iF, iB, iW⟩ := id hI
    refine tv_iload_n dMO_build_44 rfl rfl ?_
    refine tv_aload_n dMO_build_45 rfl rfl ?_
    refine gMO_72 rfl dMO_build_46 ?_
    refine tv_icmp_ge (tgt := 106) dMO_build_49 (by decide) (fun c49 => ?_) (fun c49 => absurd (nI_le (by omega) (by omega)) c49)
    refine tv_fg_3 ?_
    exact hx
  | succ n ih =>
    intro p a hI hp hx
    obtain ⟨iP, iT, iN, iA, iR, iK, iO, iQ, iF, iB, iW⟩ := id hI
    refine tv_iload_n dMO_build_44 rfl rfl ?_
    refine tv_aload_n dMO_build_45 rfl rfl ?_
    refine gMO_72 rfl dMO_build_46 ?_
    refine tv_icmp_ge (tgt := 106) dMO_build_49 (by decide) (fun c49 => absurd c49 (nI_ge (by omega) (by omega))) (fun c49 => ?_)
    refine tv_aload_n dMO_build_52 rfl rfl ?_
    refine gMO_50 rfl dMO_build_53 ?_
    refine tv_iload_n dMO_build_56 rfl rfl ?_
    refine tv_iload_n dMO_build_57 rfl rfl ?_
    refine tv_callS2r kMO_106 (by decide) (Nat.le_of_ble_eq_true rfl) ⟨rfl, rfl⟩ (mm_at (tm_h a.1) t p) ⟨Nat.zero_le _, Nat.zero_le _⟩ dMO_build_58 ?_
    refine ldM_14 dMO_build_61 (by omega) ?_
    refine tv_if_ne (tgt := 100) dMO_build_62 (by decide) (fun c62 => ?_) (fun c62 => ?_)
    · have e1 : tm_bs t p a = a := by unfold tm_bs; rw [if_neg (fun q => by have := q.1; unfold tm_bl at this; rw [tc_b2_n.mp c62] at this; cases this)]
      have h9 := ih (p + 1) a hI (by omega) (by rw [← e1]; exact hx)
      refine tv_iinc_3 dMO_build_100 (by decide) (nI_1 p) ?_
      refine tv_goto (tgt := 44) dMO_build_103 (by decide) ?_
      exact h9
    · have d62 : tm_bl a.1 t p = false := tc_b2_0.mp c62
      refine tv_aload_n dMO_build_65 rfl rfl ?_
      refine tv_iload_n dMO_build_66 rfl rfl ?_
      refine tv_iload_n dMO_build_67 rfl rfl ?_
      refine tv_callV2r kMO_112 (by decide) (Nat.le_of_ble_eq_true rfl) ⟨rfl, rfl⟩ rfl (mm_runsOn a.1 ht (by omega)) ⟨Nat.zero_le _, Nat.zero_le _⟩ dMO_build_68 ?_
      refine tv_if_eq (tgt := 100) dMO_build_71 (by decide) (fun c71 => ?_) (fun c71 => ?_)
      · have e1 : tm_bs t p a = a := by unfold tm_bs; rw [if_neg (fun q => by have := q.2.1; rw [tc_b2_0.mp c71] at this; cases this)]
        have h9 := ih (p + 1) a hI (by omega) (by rw [← e1]; exact hx)
        refine tv_iinc_3 dMO_build_100 (by decide) (nI_1 p) ?_
        refine tv_goto (tgt := 44) dMO_build_103 (by decide) ?_
        exact h9
      · have d71 := tc_b2_n.mp c71
        refine tv_aload_n dMO_build_74 rfl rfl ?_
        refine tv_iload_n dMO_build_75 rfl rfl ?_
        refine tv_iload_n dMO_build_76 rfl rfl ?_
        refine tv_callV2r kMO_115 (by decide) (Nat.le_of_ble_eq_true rfl) ⟨rfl, rfl⟩ rfl (mm_missing a.1 hI ht (by omega)) ⟨Nat.zero_le _, Nat.zero_le _⟩ dMO_build_77 ?_
        refine tv_iconst (v := -1) dMO_build_80 (by decide) ?_
        refine tv_icmp_eq (tgt := 87) dMO_build_81 (by decide) (fun c81 => ?_) (fun c81 => ?_)
        · have d81 := (tc_oI_m1 (fun k q => tc_ff_bd q (by omega))).mp c81
          have e1 : tm_bs t p a = (tm_set t p a.1, true) := by unfold tm_bs; rw [if_pos ⟨d62, d71, d81⟩]
          have h9 := ih (p + 1) (tm_set t p a.1, true) ((tm_sb.put _ _).I hI) (by show p + 1 + n = a.1.2.2.2 0; omega) (by rw [← e1]; exact hx)
          refine tv_aload_n dMO_build_87 rfl rfl ?_
          refine gMO_50 rfl dMO_build_88 ?_
          refine tv_iload_n dMO_build_91 rfl rfl ?_
          refine tv_iload_n dMO_build_92 rfl rfl ?_
          refine tv_callS2r kMO_106 (by decide) (Nat.le_of_ble_eq_true rfl) ⟨rfl, rfl⟩ (mm_at (tm_h a.1) t p) ⟨Nat.zero_le _, Nat.zero_le _⟩ dMO_build_93 ?_
          refine tv_iconst (v := 1) dMO_build_96 (by decide) ?_
          refine stM_14 (some 0) dMO_build_97 (by omega) ?_
          refine tv_eq (h' := tm_h (tm_set t p a.1)) ?_ rfl rfl rfl
          refine tv_iconst (v := 1) dMO_build_98 (by decide) ?_
          refine tv_istN_1 dMO_build_99 (by decide) ?_
          refine tv_iinc_3 dMO_build_100 (by decide) (nI_1 p) ?_
          refine tv_goto (tgt := 44) dMO_build_103 (by decide) ?_
          exact h9
        · have e1 : tm_bs t p a = a := by unfold tm_bs; rw [if_neg (fun q => c81 ((tc_oI_m1 (fun k q => tc_ff_bd q (by omega))).mpr q.2.2))]
          have h9 := ih (p + 1) a hI (by omega) (by rw [← e1]; exact hx)
          refine tv_goto (tgt := 100) dMO_build_84 (by decide) ?_
          refine tv_iinc_3 dMO_build_100 (by decide) (nI_1 p) ?_
          refine tv_goto (tgt := 44) dMO_build_103 (by decide) ?_
          exact h9
set_option maxHeartbeats 4000000 in
set_option maxRecDepth 100000 in
theorem ml_build_34  {K : tcK} : ∀ (n : Nat) (t : Nat) (a : tcS × Bool), tm_I a.1 → t + n = a.1.2.2.2 1 → tc_V (cMO_build, 4, yMO_build.cls, none, 4, yMO_build.name) K 0 0 (tm_h (tc_up tm_bt n t a).1) 26 [some (.inr (some 0)), some (.inl (tc_b2 (tc_up tm_bt n t a).2)), none, none] [] → tc_V (cMO_build, 4, yMO_build.cls, none, 4, yMO_build.name) K 0 0 (tm_h a.1) 34 [some (.inr (some 0)), some (.inl (tc_b2 a.2)), some (.inl (nI t)), none] [] := by
  intro n
  induction n with
  | zero =>
    intro t a hI ht hx
    obtain ⟨iP, iT, iN, iA, iR, iK, iO, iQ, iF, iB, iW⟩ := id hI
    refine tv_iload_n dMO_build_34 rfl rfl ?_
    refine tv_aload_n dMO_build_35 rfl rfl ?_
    refine gMO_75 rfl dMO_build_36 ?_
    refine tv_icmp_ge (tgt := 112) dMO_build_39 (by decide) (fun c39 => ?_) (fun c39 => absurd (nI_le (by omega) (by omega)) c39)
    refine tv_goto (tgt := 26) dMO_build_112 (by decide) ?_
    refine tv_fg_2 ?_
    exact hx
  | succ n ih =>
    intro t a hI ht hx
    obtain ⟨iP, iT, iN, iA, iR, iK, iO, iQ, iF, iB, iW⟩ := id hI
    have hm : tm_mv a (tm_bt t a) := tm_bt_mv (by omega) a iP _ 0 a (by omega)
    refine tv_iload_n dMO_build_34 rfl rfl ?_
    refine tv_aload_n dMO_build_35 rfl rfl ?_
    refine gMO_75 rfl dMO_build_36 ?_
    refine tv_icmp_ge (tgt := 112) dMO_build_39 (by decide) (fun c39 => absurd c39 (nI_ge (by omega) (by omega))) (fun c39 => ?_)
    refine tv_iconst (v := 0) dMO_build_42 (by decide) ?_
    refine tv_istN_3 dMO_build_43 (by decide) ?_
    refine ml_build_44 (by omega) (a.1.2.2.2 0) 0 a hI (by omega) ?_
    refine tv_iinc_2 dMO_build_106 (by decide) (nI_1 t) ?_
    refine tv_goto (tgt := 34) dMO_build_109 (by decide) ?_
    exact ih (t + 1) (tm_bt t a) (hm.1.I hI) (by rw [hm.1.2.2.2]; omega) hx
set_option maxHeartbeats 4000000 in
set_option maxRecDepth 100000 in
theorem ml_build_26  {K : tcK} : ∀ (n : Nat) (a : tcS × Bool), tm_I a.1 → (a.2 = true → cz (a.1.2.2.1 3) 144 < n) → K.2.1 = none → K.2.2.1 = tm_h (tm_bd n a) → tc_V (cMO_build, 4, yMO_build.cls, none, 4, yMO_build.name) K 0 0 (tm_h a.1) 26 [some (.inr (some 0)), some (.inl (tc_b2 a.2)), none, none] [] := by
  intro n
  induction n with
  | zero =>
    intro a hI hz hr hh
    obtain ⟨iP, iT, iN, iA, iR, iK, iO, iQ, iF, iB, iW⟩ := id hI
    refine tv_iload_n dMO_build_26 rfl rfl ?_
    refine tv_if_eq (tgt := 115) dMO_build_27 (by decide) (fun c27 => ?_) (fun c27 => absurd (hz (tc_b2_n.mp c27)) (by omega))
    exact tv_vret dMO_build_115 rfl hr hh
  | succ n ih =>
    intro a hI hz hr hh
    obtain ⟨iP, iT, iN, iA, iR, iK, iO, iQ, iF, iB, iW⟩ := id hI
    refine tv_iload_n dMO_build_26 rfl rfl ?_
    refine tv_if_eq (tgt := 115) dMO_build_27 (by decide) (fun c27 => ?_) (fun c27 => ?_)
    · exact tv_vret dMO_build_115 rfl hr (by rw [hh, tm_bd, if_neg (by rw [tc_b2_0.mp c27]; simp)])
    · refine tv_iconst (v := 0) dMO_build_30 (by decide) ?_
      refine tv_istN_1 dMO_build_31 (by decide) ?_
      refine tv_iconst (v := 0) dMO_build_32 (by decide) ?_
      refine tv_istN_2 dMO_build_33 (by decide) ?_
      refine ml_build_34 (a.1.2.2.2 1) 0 (a.1, false) hI (by show 0 + _ = a.1.2.2.2 1; omega) ?_
      have hm := tm_bp_mv (a.1.2.2.2 1) 0 (a.1, false) iP (by omega)
      exact ih (tm_bp a.1) (hm.1.I hI) (fun q => by
        have h1 := hz (tc_b2_n.mp c27)
        rcases hm.2.2 q with q2 | q2
        · cases q2
        · have q3 : cz ((tm_bp a.1).1.2.2.1 3) 144 < cz (a.1.2.2.1 3) 144 := q2
          omega) hr (by rw [hh, tm_bd, if_pos (tc_b2_n.mp c27)])
set_option maxHeartbeats 4000000 in
set_option maxRecDepth 100000 in
theorem mm_build (τ : tcS) (hI : tm_I τ) : tc_M yMO_build cMO_build 4 (none) 4 [.inr (some 0)] (tm_h τ, none, tm_h (tm_build τ), 0, 0) := by
  refine tc_met (by decide) (Nat.le_of_ble_eq_true rfl) (Nat.le_of_eq tm_len) rfl ?_
  refine tv_iconst (v := 0) dMO_build_0 (by decide) ?_
  refine tv_istN_1 dMO_build_1 (by decide) ?_
  refine ml_build_2 144 0 τ rfl ?_
  refine tv_iconst (v := 1) dMO_build_24 (by decide) ?_
  refine tv_istN_1 dMO_build_25 (by decide) ?_
  exact ml_build_26 145 (tc_up tm_clr 144 0 τ, true) ((tm_clr_sb 144 0 τ).I hI) (fun _ => Nat.lt_of_le_of_lt (cz_le _ 144) (by decide)) rfl rfl
end
section
def tm_why (τ : tcS) (t h g : Nat) : Nat :=
  if ¬ τ.2.2.1 0 (τ.2.1 0 t) = none ∧ ¬ τ.2.2.1 0 (τ.2.1 0 t) = some t then 1
  else if τ.1 3 t < τ.1 10 (τ.2.1 0 t) then 2
  else if tc_fit (τ.1 1 t) (τ.1 0 h) = false then 3
  else if tc_fit (τ.1 2 t) (τ.1 0 g) = false then 4
  else if tm_bl τ t h = true then 0 else 5
theorem tm_why_lt (τ : tcS) (t h g : Nat) : tm_why τ t h g < 6 := by
  unfold tm_why
  repeat' split
  all_goals omega
def tm_lack (τ : tcS) (w t h g : Nat) : Option Nat :=
  if w = 3 then tm_lk (τ.1 1 t) (τ.1 0 h)
  else if w = 4 then tm_lk (τ.1 2 t) (τ.1 0 g)
  else if w = 5 then tm_miss τ t h
  else none
def tm_t1 (τ : tcS) (h : Nat) : tcS := tc_s2 τ 5 (va_up (τ.2.1 5) (τ.2.2.2 4) h)
def tm_t2 (τ : tcS) (h t : Nat) : tcS := tc_s2 (tm_t1 τ h) 6 (va_up (τ.2.1 6) (τ.2.2.2 4) t)
def tm_t3 (τ : tcS) (h t w : Nat) : tcS := tc_s2 (tm_t2 τ h t) 7 (va_up (τ.2.1 7) (τ.2.2.2 4) w)
def tm_tell (τ : tcS) (t h g w : Nat) : tcS := tc_s4 (tc_s3 (tm_t3 τ h t w) 2 (va_up (τ.2.2.1 2) (τ.2.2.2 4) (tm_lack τ w t h g))) 4 (τ.2.2.2 4 + 1)
theorem tm_t3_I {τ : tcS} (hI : tm_I τ) (h t w : Nat) : tm_I (tm_t3 τ h t w) := hI
theorem tm_wants_cg {τ ρ : tcS} (h3 : ρ.2.1 3 = τ.2.1 3) (h4 : ρ.2.1 4 = τ.2.1 4) (hc : ρ.2.2.2 2 = τ.2.2.2 2) (t k : Nat) : tm_wants ρ t k = tm_wants τ t k := by
  refine Bool.eq_iff_iff.mpr ?_
  rw [tm_wants_eq, tm_wants_eq, h3, h4, hc]
theorem tm_there_cg {τ ρ : tcS} (h1 : ρ.1 = τ.1) (h0 : ρ.2.1 0 = τ.2.1 0) (h3 : ρ.2.2.1 3 = τ.2.2.1 3) (hc0 : ρ.2.2.2 0 = τ.2.2.2 0) (hc1 : ρ.2.2.2 1 = τ.2.2.2 1) (k p : Nat) : tm_there ρ k p = tm_there τ k p := by
  refine Bool.eq_iff_iff.mpr ?_
  rw [tm_there_eq, tm_there_eq]
  unfold tm_bl
  rw [h1, h0, h3, hc0, hc1]
theorem tm_miss_cg {τ ρ : tcS} (h1 : ρ.1 = τ.1) (h0 : ρ.2.1 0 = τ.2.1 0) (h3 : ρ.2.1 3 = τ.2.1 3) (h4 : ρ.2.1 4 = τ.2.1 4) (h5 : ρ.2.2.1 3 = τ.2.2.1 3) (hc0 : ρ.2.2.2 0 = τ.2.2.2 0) (hc1 : ρ.2.2.2 1 = τ.2.2.2 1) (hc2 : ρ.2.2.2 2 = τ.2.2.2 2) (t p : Nat) : tm_miss ρ t p = tm_miss τ t p := by
  unfold tm_miss
  have e : (fun k => tm_wants ρ t k && !tm_there ρ k p) = (fun k => tm_wants τ t k && !tm_there τ k p) := by
    funext k
    rw [tm_wants_cg h3 h4 hc2, tm_there_cg h1 h0 h5 hc0 hc1]
  rw [e]
theorem tm_miss_t3 (τ : tcS) (h t w u p : Nat) : tm_miss (tm_t3 τ h t w) u p = tm_miss τ u p := tm_miss_cg (τ := τ) (ρ := tm_t3 τ h t w) rfl rfl rfl rfl rfl rfl rfl rfl u p
set_option maxHeartbeats 4000000 in
set_option maxRecDepth 100000 in
theorem mm_why (τ : tcS) (hI : tm_I τ) {t h g : Nat} (ht : t < τ.2.2.2 1) (hh0 : h < τ.2.2.2 0) (hg0 : g < τ.2.2.2 0) : tc_M yMO_why cMO_why 4 (some .int) 2 [.inr (some 0), .inl (nI t), .inl (nI h), .inl (nI g)] (tm_h τ, some (.inl (nI (tm_why τ t h g))), tm_h τ, 0, 0) := by
  obtain ⟨iP, iT, iN, iA, iR, iK, iO, iQ, iF, iB, iW⟩ := id hI
  have hk := iK t ht
  refine tc_met (by decide) (Nat.le_of_ble_eq_true rfl) (Nat.le_of_eq tm_len) rfl ?_
  refine tv_aload_n dMO_why_0 rfl rfl ?_
  refine gMO_40 rfl dMO_why_1 ?_
  refine tv_aload_n dMO_why_4 rfl rfl ?_
  refine gMO_13 rfl dMO_why_5 ?_
  refine tv_iload_n dMO_why_8 rfl rfl ?_
  refine ldM_2 dMO_why_9 (by omega) ?_
  refine ldM_11 dMO_why_10 hk ?_
  refine tv_iconst (v := -1) dMO_why_11 (by decide) ?_
  refine tv_icmp_eq (tgt := 32) dMO_why_12 (by decide) (fun c12 => ?_) (fun c12 => ?_)
  · have d32 : ¬ (¬ τ.2.2.1 0 (τ.2.1 0 t) = none ∧ ¬ τ.2.2.1 0 (τ.2.1 0 t) = some t) := fun q => q.1 ((tc_oI_m1 (o := τ.2.2.1 0 (τ.2.1 0 t)) (fun a q => by have := iF _ _ q; omega)).mp c12)
    refine tv_aload_n dMO_why_32 rfl rfl ?_
    refine gMO_22 rfl dMO_why_33 ?_
    refine tv_iload_n dMO_why_36 rfl rfl ?_
    refine ldM_5 dMO_why_37 (by omega) ?_
    refine tv_aload_n dMO_why_38 rfl rfl ?_
    refine gMO_37 rfl dMO_why_39 ?_
    refine tv_aload_n dMO_why_42 rfl rfl ?_
    refine gMO_13 rfl dMO_why_43 ?_
    refine tv_iload_n dMO_why_46 rfl rfl ?_
    refine ldM_2 dMO_why_47 (by omega) ?_
    refine ldM_10 dMO_why_48 hk ?_
    refine tv_icmp_ge (tgt := 54) dMO_why_49 (by decide) (fun c49 => ?_) (fun c49 => ?_)
    · have d47 : ¬ τ.1 3 t < τ.1 10 (τ.2.1 0 t) := fun q => by rw [Int32.lt_iff_toInt_lt] at q; rw [Int32.le_iff_toInt_le] at c49; omega
      refine tv_aload_n dMO_why_54 rfl rfl ?_
      refine tv_iload_n dMO_why_55 rfl rfl ?_
      refine tv_iload_n dMO_why_56 rfl rfl ?_
      refine tv_callV2r kMO_112 (by decide) (Nat.le_of_ble_eq_true rfl) ⟨rfl, rfl⟩ rfl (mm_runsOn τ (by omega) (by omega)) ⟨Nat.zero_le _, Nat.zero_le _⟩ dMO_why_57 ?_
      refine tv_if_ne (tgt := 65) dMO_why_60 (by decide) (fun c60 => ?_) (fun c60 => ?_)
      · have d62 := tc_b2_n.mp c60
        refine tv_aload_n dMO_why_65 rfl rfl ?_
        refine tv_iload_n dMO_why_66 rfl rfl ?_
        refine tv_iload_n dMO_why_67 rfl rfl ?_
        refine tv_callV2r kMO_103 (by decide) (Nat.le_of_ble_eq_true rfl) ⟨rfl, rfl⟩ rfl (mm_makesFor τ (by omega) (by omega)) ⟨Nat.zero_le _, Nat.zero_le _⟩ dMO_why_68 ?_
        refine tv_if_ne (tgt := 76) dMO_why_71 (by decide) (fun c71 => ?_) (fun c71 => ?_)
        · have d77 := tc_b2_n.mp c71
          refine tv_aload_n dMO_why_76 rfl rfl ?_
          refine gMO_50 rfl dMO_why_77 ?_
          refine tv_iload_n dMO_why_80 rfl rfl ?_
          refine tv_iload_n dMO_why_81 rfl rfl ?_
          refine tv_callS2r kMO_106 (by decide) (Nat.le_of_ble_eq_true rfl) ⟨rfl, rfl⟩ (mm_at (tm_h τ) t h) ⟨Nat.zero_le _, Nat.zero_le _⟩ dMO_why_82 ?_
          refine ldM_14 dMO_why_85 (by omega) ?_
          refine tv_if_eq (tgt := 93) dMO_why_86 (by decide) (fun c86 => ?_) (fun c86 => ?_)
          · have d86 : tm_bl τ t h = false := tc_b2_0.mp c86
            have hr : (some (Sum.inl (nI (tm_why τ t h g))) : Option tcV) = some (Sum.inl 5) := by
              unfold tm_why
              rw [if_neg d32, if_neg d47, if_neg (by rw [d62]; simp), if_neg (by rw [d77]; simp), if_neg (by rw [d86]; simp)]
              rfl
            refine tv_iconst (v := 5) dMO_why_93 (by decide) ?_
            exact tv_iret dMO_why_94 rfl rfl hr rfl
          · have d86 : tm_bl τ t h = true := tc_b2_n.mp c86
            have hr : (some (Sum.inl (nI (tm_why τ t h g))) : Option tcV) = some (Sum.inl 0) := by
              unfold tm_why
              rw [if_neg d32, if_neg d47, if_neg (by rw [d62]; simp), if_neg (by rw [d77]; simp), if_pos d86]
              rfl
            refine tv_iconst (v := 0) dMO_why_89 (by decide) ?_
            refine tv_goto (tgt := 94) dMO_why_90 (by decide) ?_
            exact tv_iret dMO_why_94 rfl rfl hr rfl
        · have hr : (some (Sum.inl (nI (tm_why τ t h g))) : Option tcV) = some (Sum.inl 4) := by
            unfold tm_why
            rw [if_neg d32, if_neg d47, if_neg (by rw [d62]; simp), if_pos (tc_b2_0.mp c71)]
            rfl
          refine tv_iconst (v := 4) dMO_why_74 (by decide) ?_
          exact tv_iret dMO_why_75 rfl rfl hr rfl
      · have hr : (some (Sum.inl (nI (tm_why τ t h g))) : Option tcV) = some (Sum.inl 3) := by
          unfold tm_why
          rw [if_neg d32, if_neg d47, if_pos (tc_b2_0.mp c60)]
          rfl
        refine tv_iconst (v := 3) dMO_why_63 (by decide) ?_
        exact tv_iret dMO_why_64 rfl rfl hr rfl
    · have d47 : τ.1 3 t < τ.1 10 (τ.2.1 0 t) := by rw [Int32.lt_iff_toInt_lt]; rw [Int32.le_iff_toInt_le] at c49; omega
      have hr : (some (Sum.inl (nI (tm_why τ t h g))) : Option tcV) = some (Sum.inl 2) := by
        unfold tm_why
        rw [if_neg d32, if_pos d47]
        rfl
      refine tv_iconst (v := 2) dMO_why_52 (by decide) ?_
      exact tv_iret dMO_why_53 rfl rfl hr rfl
  · have d16 : ¬ τ.2.2.1 0 (τ.2.1 0 t) = none := fun q => c12 ((tc_oI_m1 (o := τ.2.2.1 0 (τ.2.1 0 t)) (fun a q => by have := iF _ _ q; omega)).mpr q)
    refine tv_aload_n dMO_why_15 rfl rfl ?_
    refine gMO_40 rfl dMO_why_16 ?_
    refine tv_aload_n dMO_why_19 rfl rfl ?_
    refine gMO_13 rfl dMO_why_20 ?_
    refine tv_iload_n dMO_why_23 rfl rfl ?_
    refine ldM_2 dMO_why_24 (by omega) ?_
    refine ldM_11 dMO_why_25 hk ?_
    refine tv_iload_n dMO_why_26 rfl rfl ?_
    refine tv_icmp_eq (tgt := 32) dMO_why_27 (by decide) (fun c27 => ?_) (fun c27 => ?_)
    · have d32 : ¬ (¬ τ.2.2.1 0 (τ.2.1 0 t) = none ∧ ¬ τ.2.2.1 0 (τ.2.1 0 t) = some t) := fun q => q.2 ((tc_oI_some (o := τ.2.2.1 0 (τ.2.1 0 t)) (fun a q => by have := iF _ _ q; omega) (by omega)).mp c27)
      refine tv_aload_n dMO_why_32 rfl rfl ?_
      refine gMO_22 rfl dMO_why_33 ?_
      refine tv_iload_n dMO_why_36 rfl rfl ?_
      refine ldM_5 dMO_why_37 (by omega) ?_
      refine tv_aload_n dMO_why_38 rfl rfl ?_
      refine gMO_37 rfl dMO_why_39 ?_
      refine tv_aload_n dMO_why_42 rfl rfl ?_
      refine gMO_13 rfl dMO_why_43 ?_
      refine tv_iload_n dMO_why_46 rfl rfl ?_
      refine ldM_2 dMO_why_47 (by omega) ?_
      refine ldM_10 dMO_why_48 hk ?_
      refine tv_icmp_ge (tgt := 54) dMO_why_49 (by decide) (fun c49 => ?_) (fun c49 => ?_)
      · have d47 : ¬ τ.1 3 t < τ.1 10 (τ.2.1 0 t) := fun q => by rw [Int32.lt_iff_toInt_lt] at q; rw [Int32.le_iff_toInt_le] at c49; omega
        refine tv_aload_n dMO_why_54 rfl rfl ?_
        refine tv_iload_n dMO_why_55 rfl rfl ?_
        refine tv_iload_n dMO_why_56 rfl rfl ?_
        refine tv_callV2r kMO_112 (by decide) (Nat.le_of_ble_eq_true rfl) ⟨rfl, rfl⟩ rfl (mm_runsOn τ (by omega) (by omega)) ⟨Nat.zero_le _, Nat.zero_le _⟩ dMO_why_57 ?_
        refine tv_if_ne (tgt := 65) dMO_why_60 (by decide) (fun c60 => ?_) (fun c60 => ?_)
        · have d62 := tc_b2_n.mp c60
          refine tv_aload_n dMO_why_65 rfl rfl ?_
          refine tv_iload_n dMO_why_66 rfl rfl ?_
          refine tv_iload_n dMO_why_67 rfl rfl ?_
          refine tv_callV2r kMO_103 (by decide) (Nat.le_of_ble_eq_true rfl) ⟨rfl, rfl⟩ rfl (mm_makesFor τ (by omega) (by omega)) ⟨Nat.zero_le _, Nat.zero_le _⟩ dMO_why_68 ?_
          refine tv_if_ne (tgt := 76) dMO_why_71 (by decide) (fun c71 => ?_) (fun c71 => ?_)
          · have d77 := tc_b2_n.mp c71
            refine tv_aload_n dMO_why_76 rfl rfl ?_
            refine gMO_50 rfl dMO_why_77 ?_
            refine tv_iload_n dMO_why_80 rfl rfl ?_
            refine tv_iload_n dMO_why_81 rfl rfl ?_
            refine tv_callS2r kMO_106 (by decide) (Nat.le_of_ble_eq_true rfl) ⟨rfl, rfl⟩ (mm_at (tm_h τ) t h) ⟨Nat.zero_le _, Nat.zero_le _⟩ dMO_why_82 ?_
            refine ldM_14 dMO_why_85 (by omega) ?_
            refine tv_if_eq (tgt := 93) dMO_why_86 (by decide) (fun c86 => ?_) (fun c86 => ?_)
            · have d86 : tm_bl τ t h = false := tc_b2_0.mp c86
              have hr : (some (Sum.inl (nI (tm_why τ t h g))) : Option tcV) = some (Sum.inl 5) := by
                unfold tm_why
                rw [if_neg d32, if_neg d47, if_neg (by rw [d62]; simp), if_neg (by rw [d77]; simp), if_neg (by rw [d86]; simp)]
                rfl
              refine tv_iconst (v := 5) dMO_why_93 (by decide) ?_
              exact tv_iret dMO_why_94 rfl rfl hr rfl
            · have d86 : tm_bl τ t h = true := tc_b2_n.mp c86
              have hr : (some (Sum.inl (nI (tm_why τ t h g))) : Option tcV) = some (Sum.inl 0) := by
                unfold tm_why
                rw [if_neg d32, if_neg d47, if_neg (by rw [d62]; simp), if_neg (by rw [d77]; simp), if_pos d86]
                rfl
              refine tv_iconst (v := 0) dMO_why_89 (by decide) ?_
              refine tv_goto (tgt := 94) dMO_why_90 (by decide) ?_
              exact tv_iret dMO_why_94 rfl rfl hr rfl
          · have hr : (some (Sum.inl (nI (tm_why τ t h g))) : Option tcV) = some (Sum.inl 4) := by
              unfold tm_why
              rw [if_neg d32, if_neg d47, if_neg (by rw [d62]; simp), if_pos (tc_b2_0.mp c71)]
              rfl
            refine tv_iconst (v := 4) dMO_why_74 (by decide) ?_
            exact tv_iret dMO_why_75 rfl rfl hr rfl
        · have hr : (some (Sum.inl (nI (tm_why τ t h g))) : Option tcV) = some (Sum.inl 3) := by
            unfold tm_why
            rw [if_neg d32, if_neg d47, if_pos (tc_b2_0.mp c60)]
            rfl
          refine tv_iconst (v := 3) dMO_why_63 (by decide) ?_
          exact tv_iret dMO_why_64 rfl rfl hr rfl
      · have d47 : τ.1 3 t < τ.1 10 (τ.2.1 0 t) := by rw [Int32.lt_iff_toInt_lt]; rw [Int32.le_iff_toInt_le] at c49; omega
        have hr : (some (Sum.inl (nI (tm_why τ t h g))) : Option tcV) = some (Sum.inl 2) := by
          unfold tm_why
          rw [if_neg d32, if_pos d47]
          rfl
        refine tv_iconst (v := 2) dMO_why_52 (by decide) ?_
        exact tv_iret dMO_why_53 rfl rfl hr rfl
    · have d27 : ¬ τ.2.2.1 0 (τ.2.1 0 t) = some t := fun q => c27 ((tc_oI_some (o := τ.2.2.1 0 (τ.2.1 0 t)) (fun a q => by have := iF _ _ q; omega) (by omega)).mpr q)
      have hr : (some (Sum.inl (nI (tm_why τ t h g))) : Option tcV) = some (Sum.inl 1) := by
        unfold tm_why
        rw [if_pos ⟨d16, d27⟩]
        rfl
      refine tv_iconst (v := 1) dMO_why_30 (by decide) ?_
      exact tv_iret dMO_why_31 rfl rfl hr rfl
set_option maxHeartbeats 4000000 in
set_option maxRecDepth 100000 in
theorem mm_tell (τ : tcS) (hI : tm_I τ) {t h g : Nat} (ht : t < τ.2.2.2 1) (hh0 : h < τ.2.2.2 0) (hg0 : g < τ.2.2.2 0) (w : Nat) (hw : w < 6) (hR : τ.2.2.2 4 < 200) : tc_M yMO_tell cMO_tell 5 none 4 [.inr (some 0), .inl (nI t), .inl (nI h), .inl (nI g), .inl (nI w)] (tm_h τ, none, tm_h (tm_tell τ t h g w), 0, 0) := by
  obtain ⟨iP, iT, iN, iA, iR, iK, iO, iQ, iF, iB, iW⟩ := id hI
  rcases (show w = 0 ∨ w = 1 ∨ w = 2 ∨ w = 3 ∨ w = 4 ∨ w = 5 by omega) with rfl | rfl | rfl | rfl | rfl | rfl
  · refine tc_met (by decide) (Nat.le_of_ble_eq_true rfl) (Nat.le_of_eq tm_len) rfl ?_
    refine tv_aload_n dMO_tell_0 rfl rfl ?_
    refine gMO_56 rfl dMO_tell_1 ?_
    refine tv_aload_n dMO_tell_4 rfl rfl ?_
    refine gMO_124 rfl dMO_tell_5 ?_
    refine tv_iload_n dMO_tell_8 rfl rfl ?_
    refine stM_16 dMO_tell_9 hR ?_
    refine tv_eq (h' := tm_h (tm_t1 τ h)) ?_ rfl rfl rfl
    refine tv_aload_n dMO_tell_10 rfl rfl ?_
    refine gMO_59 rfl dMO_tell_11 ?_
    refine tv_aload_n dMO_tell_14 rfl rfl ?_
    refine gMO_124 rfl dMO_tell_15 ?_
    refine tv_top (b := .inl (nI (τ.2.2.2 4))) rfl ?_
    refine tv_iload_n dMO_tell_18 rfl rfl ?_
    refine stM_17 dMO_tell_19 hR ?_
    refine tv_eq (h' := tm_h (tm_t2 τ h t)) ?_ rfl rfl rfl
    refine tv_aload_n dMO_tell_20 rfl rfl ?_
    refine gMO_62 rfl dMO_tell_21 ?_
    refine tv_aload_n dMO_tell_24 rfl rfl ?_
    refine gMO_124 rfl dMO_tell_25 ?_
    refine tv_top (b := .inl (nI (τ.2.2.2 4))) rfl ?_
    refine tv_iload dMO_tell_28 rfl ?_
    refine stM_18 dMO_tell_30 hR ?_
    refine tv_eq (h' := tm_h (tm_t3 τ h t 0)) ?_ rfl rfl rfl
    refine tv_aload_n dMO_tell_31 rfl rfl ?_
    refine gMO_65 rfl dMO_tell_32 ?_
    refine tv_aload_n dMO_tell_35 rfl rfl ?_
    refine gMO_124 rfl dMO_tell_36 ?_
    refine tv_top (b := .inl (nI (τ.2.2.2 4))) rfl ?_
    refine tv_iload dMO_tell_39 rfl ?_
    refine tv_iconst (v := 3) dMO_tell_41 (by decide) ?_
    refine tv_icmp_ne (tgt := 59) dMO_tell_42 (by decide) (fun c42 => ?_) (fun c42 => absurd c42 (by decide))
    refine tv_iload dMO_tell_59 rfl ?_
    refine tv_iconst (v := 4) dMO_tell_61 (by decide) ?_
    refine tv_icmp_ne (tgt := 79) dMO_tell_62 (by decide) (fun c62 => ?_) (fun c62 => absurd c62 (by decide))
    refine tv_iload dMO_tell_79 rfl ?_
    refine tv_iconst (v := 5) dMO_tell_81 (by decide) ?_
    refine tv_icmp_ne (tgt := 94) dMO_tell_82 (by decide) (fun c82 => ?_) (fun c82 => absurd c82 (by decide))
    refine tv_iconst (v := -1) dMO_tell_94 (by decide) ?_
    refine tv_top (b := .inl (tc_oI (tm_lack τ 0 t h g))) rfl ?_
    refine stM_19 (tm_lack τ 0 t h g) dMO_tell_95 hR ?_
    refine tv_eq (h' := tm_h (tc_s3 (tm_t3 τ h t 0) 2 (va_up (τ.2.2.1 2) (τ.2.2.2 4) (tm_lack τ 0 t h g)))) ?_ rfl rfl rfl
    refine tv_aload_n dMO_tell_96 rfl rfl ?_
    refine tv_dup dMO_tell_97 ?_
    refine gMO_124 rfl dMO_tell_98 ?_
    refine tv_top (b := .inl (nI (τ.2.2.2 4))) rfl ?_
    refine tv_iconst (v := 1) dMO_tell_101 (by decide) ?_
    refine tv_iadd dMO_tell_102 ?_
    refine tv_top (b := .inl (nI (τ.2.2.2 4 + 1))) (congrArg Sum.inl (nI_1 _)) ?_
    refine pMO_124 rfl dMO_tell_103 ?_
    exact tv_vret dMO_tell_106 rfl rfl rfl
  · refine tc_met (by decide) (Nat.le_of_ble_eq_true rfl) (Nat.le_of_eq tm_len) rfl ?_
    refine tv_aload_n dMO_tell_0 rfl rfl ?_
    refine gMO_56 rfl dMO_tell_1 ?_
    refine tv_aload_n dMO_tell_4 rfl rfl ?_
    refine gMO_124 rfl dMO_tell_5 ?_
    refine tv_iload_n dMO_tell_8 rfl rfl ?_
    refine stM_16 dMO_tell_9 hR ?_
    refine tv_eq (h' := tm_h (tm_t1 τ h)) ?_ rfl rfl rfl
    refine tv_aload_n dMO_tell_10 rfl rfl ?_
    refine gMO_59 rfl dMO_tell_11 ?_
    refine tv_aload_n dMO_tell_14 rfl rfl ?_
    refine gMO_124 rfl dMO_tell_15 ?_
    refine tv_top (b := .inl (nI (τ.2.2.2 4))) rfl ?_
    refine tv_iload_n dMO_tell_18 rfl rfl ?_
    refine stM_17 dMO_tell_19 hR ?_
    refine tv_eq (h' := tm_h (tm_t2 τ h t)) ?_ rfl rfl rfl
    refine tv_aload_n dMO_tell_20 rfl rfl ?_
    refine gMO_62 rfl dMO_tell_21 ?_
    refine tv_aload_n dMO_tell_24 rfl rfl ?_
    refine gMO_124 rfl dMO_tell_25 ?_
    refine tv_top (b := .inl (nI (τ.2.2.2 4))) rfl ?_
    refine tv_iload dMO_tell_28 rfl ?_
    refine stM_18 dMO_tell_30 hR ?_
    refine tv_eq (h' := tm_h (tm_t3 τ h t 1)) ?_ rfl rfl rfl
    refine tv_aload_n dMO_tell_31 rfl rfl ?_
    refine gMO_65 rfl dMO_tell_32 ?_
    refine tv_aload_n dMO_tell_35 rfl rfl ?_
    refine gMO_124 rfl dMO_tell_36 ?_
    refine tv_top (b := .inl (nI (τ.2.2.2 4))) rfl ?_
    refine tv_iload dMO_tell_39 rfl ?_
    refine tv_iconst (v := 3) dMO_tell_41 (by decide) ?_
    refine tv_icmp_ne (tgt := 59) dMO_tell_42 (by decide) (fun c42 => ?_) (fun c42 => absurd c42 (by decide))
    refine tv_iload dMO_tell_59 rfl ?_
    refine tv_iconst (v := 4) dMO_tell_61 (by decide) ?_
    refine tv_icmp_ne (tgt := 79) dMO_tell_62 (by decide) (fun c62 => ?_) (fun c62 => absurd c62 (by decide))
    refine tv_iload dMO_tell_79 rfl ?_
    refine tv_iconst (v := 5) dMO_tell_81 (by decide) ?_
    refine tv_icmp_ne (tgt := 94) dMO_tell_82 (by decide) (fun c82 => ?_) (fun c82 => absurd c82 (by decide))
    refine tv_iconst (v := -1) dMO_tell_94 (by decide) ?_
    refine tv_top (b := .inl (tc_oI (tm_lack τ 1 t h g))) rfl ?_
    refine stM_19 (tm_lack τ 1 t h g) dMO_tell_95 hR ?_
    refine tv_eq (h' := tm_h (tc_s3 (tm_t3 τ h t 1) 2 (va_up (τ.2.2.1 2) (τ.2.2.2 4) (tm_lack τ 1 t h g)))) ?_ rfl rfl rfl
    refine tv_aload_n dMO_tell_96 rfl rfl ?_
    refine tv_dup dMO_tell_97 ?_
    refine gMO_124 rfl dMO_tell_98 ?_
    refine tv_top (b := .inl (nI (τ.2.2.2 4))) rfl ?_
    refine tv_iconst (v := 1) dMO_tell_101 (by decide) ?_
    refine tv_iadd dMO_tell_102 ?_
    refine tv_top (b := .inl (nI (τ.2.2.2 4 + 1))) (congrArg Sum.inl (nI_1 _)) ?_
    refine pMO_124 rfl dMO_tell_103 ?_
    exact tv_vret dMO_tell_106 rfl rfl rfl
  · refine tc_met (by decide) (Nat.le_of_ble_eq_true rfl) (Nat.le_of_eq tm_len) rfl ?_
    refine tv_aload_n dMO_tell_0 rfl rfl ?_
    refine gMO_56 rfl dMO_tell_1 ?_
    refine tv_aload_n dMO_tell_4 rfl rfl ?_
    refine gMO_124 rfl dMO_tell_5 ?_
    refine tv_iload_n dMO_tell_8 rfl rfl ?_
    refine stM_16 dMO_tell_9 hR ?_
    refine tv_eq (h' := tm_h (tm_t1 τ h)) ?_ rfl rfl rfl
    refine tv_aload_n dMO_tell_10 rfl rfl ?_
    refine gMO_59 rfl dMO_tell_11 ?_
    refine tv_aload_n dMO_tell_14 rfl rfl ?_
    refine gMO_124 rfl dMO_tell_15 ?_
    refine tv_top (b := .inl (nI (τ.2.2.2 4))) rfl ?_
    refine tv_iload_n dMO_tell_18 rfl rfl ?_
    refine stM_17 dMO_tell_19 hR ?_
    refine tv_eq (h' := tm_h (tm_t2 τ h t)) ?_ rfl rfl rfl
    refine tv_aload_n dMO_tell_20 rfl rfl ?_
    refine gMO_62 rfl dMO_tell_21 ?_
    refine tv_aload_n dMO_tell_24 rfl rfl ?_
    refine gMO_124 rfl dMO_tell_25 ?_
    refine tv_top (b := .inl (nI (τ.2.2.2 4))) rfl ?_
    refine tv_iload dMO_tell_28 rfl ?_
    refine stM_18 dMO_tell_30 hR ?_
    refine tv_eq (h' := tm_h (tm_t3 τ h t 2)) ?_ rfl rfl rfl
    refine tv_aload_n dMO_tell_31 rfl rfl ?_
    refine gMO_65 rfl dMO_tell_32 ?_
    refine tv_aload_n dMO_tell_35 rfl rfl ?_
    refine gMO_124 rfl dMO_tell_36 ?_
    refine tv_top (b := .inl (nI (τ.2.2.2 4))) rfl ?_
    refine tv_iload dMO_tell_39 rfl ?_
    refine tv_iconst (v := 3) dMO_tell_41 (by decide) ?_
    refine tv_icmp_ne (tgt := 59) dMO_tell_42 (by decide) (fun c42 => ?_) (fun c42 => absurd c42 (by decide))
    refine tv_iload dMO_tell_59 rfl ?_
    refine tv_iconst (v := 4) dMO_tell_61 (by decide) ?_
    refine tv_icmp_ne (tgt := 79) dMO_tell_62 (by decide) (fun c62 => ?_) (fun c62 => absurd c62 (by decide))
    refine tv_iload dMO_tell_79 rfl ?_
    refine tv_iconst (v := 5) dMO_tell_81 (by decide) ?_
    refine tv_icmp_ne (tgt := 94) dMO_tell_82 (by decide) (fun c82 => ?_) (fun c82 => absurd c82 (by decide))
    refine tv_iconst (v := -1) dMO_tell_94 (by decide) ?_
    refine tv_top (b := .inl (tc_oI (tm_lack τ 2 t h g))) rfl ?_
    refine stM_19 (tm_lack τ 2 t h g) dMO_tell_95 hR ?_
    refine tv_eq (h' := tm_h (tc_s3 (tm_t3 τ h t 2) 2 (va_up (τ.2.2.1 2) (τ.2.2.2 4) (tm_lack τ 2 t h g)))) ?_ rfl rfl rfl
    refine tv_aload_n dMO_tell_96 rfl rfl ?_
    refine tv_dup dMO_tell_97 ?_
    refine gMO_124 rfl dMO_tell_98 ?_
    refine tv_top (b := .inl (nI (τ.2.2.2 4))) rfl ?_
    refine tv_iconst (v := 1) dMO_tell_101 (by decide) ?_
    refine tv_iadd dMO_tell_102 ?_
    refine tv_top (b := .inl (nI (τ.2.2.2 4 + 1))) (congrArg Sum.inl (nI_1 _)) ?_
    refine pMO_124 rfl dMO_tell_103 ?_
    exact tv_vret dMO_tell_106 rfl rfl rfl
  · refine tc_met (by decide) (Nat.le_of_ble_eq_true rfl) (Nat.le_of_eq tm_len) rfl ?_
    refine tv_aload_n dMO_tell_0 rfl rfl ?_
    refine gMO_56 rfl dMO_tell_1 ?_
    refine tv_aload_n dMO_tell_4 rfl rfl ?_
    refine gMO_124 rfl dMO_tell_5 ?_
    refine tv_iload_n dMO_tell_8 rfl rfl ?_
    refine stM_16 dMO_tell_9 hR ?_
    refine tv_eq (h' := tm_h (tm_t1 τ h)) ?_ rfl rfl rfl
    refine tv_aload_n dMO_tell_10 rfl rfl ?_
    refine gMO_59 rfl dMO_tell_11 ?_
    refine tv_aload_n dMO_tell_14 rfl rfl ?_
    refine gMO_124 rfl dMO_tell_15 ?_
    refine tv_top (b := .inl (nI (τ.2.2.2 4))) rfl ?_
    refine tv_iload_n dMO_tell_18 rfl rfl ?_
    refine stM_17 dMO_tell_19 hR ?_
    refine tv_eq (h' := tm_h (tm_t2 τ h t)) ?_ rfl rfl rfl
    refine tv_aload_n dMO_tell_20 rfl rfl ?_
    refine gMO_62 rfl dMO_tell_21 ?_
    refine tv_aload_n dMO_tell_24 rfl rfl ?_
    refine gMO_124 rfl dMO_tell_25 ?_
    refine tv_top (b := .inl (nI (τ.2.2.2 4))) rfl ?_
    refine tv_iload dMO_tell_28 rfl ?_
    refine stM_18 dMO_tell_30 hR ?_
    refine tv_eq (h' := tm_h (tm_t3 τ h t 3)) ?_ rfl rfl rfl
    refine tv_aload_n dMO_tell_31 rfl rfl ?_
    refine gMO_65 rfl dMO_tell_32 ?_
    refine tv_aload_n dMO_tell_35 rfl rfl ?_
    refine gMO_124 rfl dMO_tell_36 ?_
    refine tv_top (b := .inl (nI (τ.2.2.2 4))) rfl ?_
    refine tv_iload dMO_tell_39 rfl ?_
    refine tv_iconst (v := 3) dMO_tell_41 (by decide) ?_
    refine tv_icmp_ne (tgt := 59) dMO_tell_42 (by decide) (fun c42 => absurd rfl c42) (fun c42 => ?_)
    refine tv_aload_n dMO_tell_45 rfl rfl ?_
    refine tv_aload_n dMO_tell_46 rfl rfl ?_
    refine gMO_16 rfl dMO_tell_47 ?_
    refine tv_iload_n dMO_tell_50 rfl rfl ?_
    refine ldM_3 dMO_tell_51 (by omega) ?_
    refine tv_top (b := .inl (τ.1 1 t)) rfl ?_
    refine tv_iload_n dMO_tell_52 rfl rfl ?_
    refine tv_callV2r kMO_99 (by decide) (Nat.le_of_ble_eq_true rfl) ⟨rfl, rfl⟩ rfl (mm_lacking (tm_t3 τ h t 3) (τ.1 1 t) (by omega)) ⟨Nat.zero_le _, Nat.zero_le _⟩ dMO_tell_53 ?_
    refine tv_goto (tgt := 95) dMO_tell_56 (by decide) ?_
    refine tv_top (b := .inl (tc_oI (tm_lack τ 3 t h g))) rfl ?_
    refine stM_19 (tm_lack τ 3 t h g) dMO_tell_95 hR ?_
    refine tv_eq (h' := tm_h (tc_s3 (tm_t3 τ h t 3) 2 (va_up (τ.2.2.1 2) (τ.2.2.2 4) (tm_lack τ 3 t h g)))) ?_ rfl rfl rfl
    refine tv_aload_n dMO_tell_96 rfl rfl ?_
    refine tv_dup dMO_tell_97 ?_
    refine gMO_124 rfl dMO_tell_98 ?_
    refine tv_top (b := .inl (nI (τ.2.2.2 4))) rfl ?_
    refine tv_iconst (v := 1) dMO_tell_101 (by decide) ?_
    refine tv_iadd dMO_tell_102 ?_
    refine tv_top (b := .inl (nI (τ.2.2.2 4 + 1))) (congrArg Sum.inl (nI_1 _)) ?_
    refine pMO_124 rfl dMO_tell_103 ?_
    exact tv_vret dMO_tell_106 rfl rfl rfl
  · refine tc_met (by decide) (Nat.le_of_ble_eq_true rfl) (Nat.le_of_eq tm_len) rfl ?_
    refine tv_aload_n dMO_tell_0 rfl rfl ?_
    refine gMO_56 rfl dMO_tell_1 ?_
    refine tv_aload_n dMO_tell_4 rfl rfl ?_
    refine gMO_124 rfl dMO_tell_5 ?_
    refine tv_iload_n dMO_tell_8 rfl rfl ?_
    refine stM_16 dMO_tell_9 hR ?_
    refine tv_eq (h' := tm_h (tm_t1 τ h)) ?_ rfl rfl rfl
    refine tv_aload_n dMO_tell_10 rfl rfl ?_
    refine gMO_59 rfl dMO_tell_11 ?_
    refine tv_aload_n dMO_tell_14 rfl rfl ?_
    refine gMO_124 rfl dMO_tell_15 ?_
    refine tv_top (b := .inl (nI (τ.2.2.2 4))) rfl ?_
    refine tv_iload_n dMO_tell_18 rfl rfl ?_
    refine stM_17 dMO_tell_19 hR ?_
    refine tv_eq (h' := tm_h (tm_t2 τ h t)) ?_ rfl rfl rfl
    refine tv_aload_n dMO_tell_20 rfl rfl ?_
    refine gMO_62 rfl dMO_tell_21 ?_
    refine tv_aload_n dMO_tell_24 rfl rfl ?_
    refine gMO_124 rfl dMO_tell_25 ?_
    refine tv_top (b := .inl (nI (τ.2.2.2 4))) rfl ?_
    refine tv_iload dMO_tell_28 rfl ?_
    refine stM_18 dMO_tell_30 hR ?_
    refine tv_eq (h' := tm_h (tm_t3 τ h t 4)) ?_ rfl rfl rfl
    refine tv_aload_n dMO_tell_31 rfl rfl ?_
    refine gMO_65 rfl dMO_tell_32 ?_
    refine tv_aload_n dMO_tell_35 rfl rfl ?_
    refine gMO_124 rfl dMO_tell_36 ?_
    refine tv_top (b := .inl (nI (τ.2.2.2 4))) rfl ?_
    refine tv_iload dMO_tell_39 rfl ?_
    refine tv_iconst (v := 3) dMO_tell_41 (by decide) ?_
    refine tv_icmp_ne (tgt := 59) dMO_tell_42 (by decide) (fun c42 => ?_) (fun c42 => absurd c42 (by decide))
    refine tv_iload dMO_tell_59 rfl ?_
    refine tv_iconst (v := 4) dMO_tell_61 (by decide) ?_
    refine tv_icmp_ne (tgt := 79) dMO_tell_62 (by decide) (fun c62 => absurd rfl c62) (fun c62 => ?_)
    refine tv_aload_n dMO_tell_65 rfl rfl ?_
    refine tv_aload_n dMO_tell_66 rfl rfl ?_
    refine gMO_19 rfl dMO_tell_67 ?_
    refine tv_iload_n dMO_tell_70 rfl rfl ?_
    refine ldM_4 dMO_tell_71 (by omega) ?_
    refine tv_top (b := .inl (τ.1 2 t)) rfl ?_
    refine tv_iload_n dMO_tell_72 rfl rfl ?_
    refine tv_callV2r kMO_99 (by decide) (Nat.le_of_ble_eq_true rfl) ⟨rfl, rfl⟩ rfl (mm_lacking (tm_t3 τ h t 4) (τ.1 2 t) (by omega)) ⟨Nat.zero_le _, Nat.zero_le _⟩ dMO_tell_73 ?_
    refine tv_goto (tgt := 95) dMO_tell_76 (by decide) ?_
    refine tv_top (b := .inl (tc_oI (tm_lack τ 4 t h g))) rfl ?_
    refine stM_19 (tm_lack τ 4 t h g) dMO_tell_95 hR ?_
    refine tv_eq (h' := tm_h (tc_s3 (tm_t3 τ h t 4) 2 (va_up (τ.2.2.1 2) (τ.2.2.2 4) (tm_lack τ 4 t h g)))) ?_ rfl rfl rfl
    refine tv_aload_n dMO_tell_96 rfl rfl ?_
    refine tv_dup dMO_tell_97 ?_
    refine gMO_124 rfl dMO_tell_98 ?_
    refine tv_top (b := .inl (nI (τ.2.2.2 4))) rfl ?_
    refine tv_iconst (v := 1) dMO_tell_101 (by decide) ?_
    refine tv_iadd dMO_tell_102 ?_
    refine tv_top (b := .inl (nI (τ.2.2.2 4 + 1))) (congrArg Sum.inl (nI_1 _)) ?_
    refine pMO_124 rfl dMO_tell_103 ?_
    exact tv_vret dMO_tell_106 rfl rfl rfl
  · refine tc_met (by decide) (Nat.le_of_ble_eq_true rfl) (Nat.le_of_eq tm_len) rfl ?_
    refine tv_aload_n dMO_tell_0 rfl rfl ?_
    refine gMO_56 rfl dMO_tell_1 ?_
    refine tv_aload_n dMO_tell_4 rfl rfl ?_
    refine gMO_124 rfl dMO_tell_5 ?_
    refine tv_iload_n dMO_tell_8 rfl rfl ?_
    refine stM_16 dMO_tell_9 hR ?_
    refine tv_eq (h' := tm_h (tm_t1 τ h)) ?_ rfl rfl rfl
    refine tv_aload_n dMO_tell_10 rfl rfl ?_
    refine gMO_59 rfl dMO_tell_11 ?_
    refine tv_aload_n dMO_tell_14 rfl rfl ?_
    refine gMO_124 rfl dMO_tell_15 ?_
    refine tv_top (b := .inl (nI (τ.2.2.2 4))) rfl ?_
    refine tv_iload_n dMO_tell_18 rfl rfl ?_
    refine stM_17 dMO_tell_19 hR ?_
    refine tv_eq (h' := tm_h (tm_t2 τ h t)) ?_ rfl rfl rfl
    refine tv_aload_n dMO_tell_20 rfl rfl ?_
    refine gMO_62 rfl dMO_tell_21 ?_
    refine tv_aload_n dMO_tell_24 rfl rfl ?_
    refine gMO_124 rfl dMO_tell_25 ?_
    refine tv_top (b := .inl (nI (τ.2.2.2 4))) rfl ?_
    refine tv_iload dMO_tell_28 rfl ?_
    refine stM_18 dMO_tell_30 hR ?_
    refine tv_eq (h' := tm_h (tm_t3 τ h t 5)) ?_ rfl rfl rfl
    refine tv_aload_n dMO_tell_31 rfl rfl ?_
    refine gMO_65 rfl dMO_tell_32 ?_
    refine tv_aload_n dMO_tell_35 rfl rfl ?_
    refine gMO_124 rfl dMO_tell_36 ?_
    refine tv_top (b := .inl (nI (τ.2.2.2 4))) rfl ?_
    refine tv_iload dMO_tell_39 rfl ?_
    refine tv_iconst (v := 3) dMO_tell_41 (by decide) ?_
    refine tv_icmp_ne (tgt := 59) dMO_tell_42 (by decide) (fun c42 => ?_) (fun c42 => absurd c42 (by decide))
    refine tv_iload dMO_tell_59 rfl ?_
    refine tv_iconst (v := 4) dMO_tell_61 (by decide) ?_
    refine tv_icmp_ne (tgt := 79) dMO_tell_62 (by decide) (fun c62 => ?_) (fun c62 => absurd c62 (by decide))
    refine tv_iload dMO_tell_79 rfl ?_
    refine tv_iconst (v := 5) dMO_tell_81 (by decide) ?_
    refine tv_icmp_ne (tgt := 94) dMO_tell_82 (by decide) (fun c82 => absurd rfl c82) (fun c82 => ?_)
    refine tv_aload_n dMO_tell_85 rfl rfl ?_
    refine tv_iload_n dMO_tell_86 rfl rfl ?_
    refine tv_iload_n dMO_tell_87 rfl rfl ?_
    refine tv_callV2r kMO_115 (by decide) (Nat.le_of_ble_eq_true rfl) ⟨rfl, rfl⟩ rfl (mm_missing (tm_t3 τ h t 5) (tm_t3_I hI h t 5) (by omega) (by omega)) ⟨Nat.zero_le _, Nat.zero_le _⟩ dMO_tell_88 ?_
    refine tv_goto (tgt := 95) dMO_tell_91 (by decide) ?_
    refine tv_top (b := .inl (tc_oI (tm_lack τ 5 t h g))) (congrArg (fun o => (Sum.inl (tc_oI o) : tcV)) (tm_miss_t3 τ h t 5 t h)) ?_
    refine stM_19 (tm_lack τ 5 t h g) dMO_tell_95 hR ?_
    refine tv_eq (h' := tm_h (tc_s3 (tm_t3 τ h t 5) 2 (va_up (τ.2.2.1 2) (τ.2.2.2 4) (tm_lack τ 5 t h g)))) ?_ rfl rfl rfl
    refine tv_aload_n dMO_tell_96 rfl rfl ?_
    refine tv_dup dMO_tell_97 ?_
    refine gMO_124 rfl dMO_tell_98 ?_
    refine tv_top (b := .inl (nI (τ.2.2.2 4))) rfl ?_
    refine tv_iconst (v := 1) dMO_tell_101 (by decide) ?_
    refine tv_iadd dMO_tell_102 ?_
    refine tv_top (b := .inl (nI (τ.2.2.2 4 + 1))) (congrArg Sum.inl (nI_1 _)) ?_
    refine pMO_124 rfl dMO_tell_103 ?_
    exact tv_vret dMO_tell_106 rfl rfl rfl
theorem tm_tell_I {τ : tcS} (hI : tm_I τ) (t h g w : Nat) (hR : τ.2.2.2 4 < 200) : tm_I (tm_tell τ t h g w) := by
  obtain ⟨iP, iT, iN, iA, iR, iK, iO, iQ, iF, iB, iW⟩ := hI
  exact ⟨iP, iT, iN, iA, by show τ.2.2.2 4 + 1 ≤ 200; omega, iK, iO, iQ, iF, iB, iW⟩
/-- what the rows leave as it was -/
def tm_sr (τ ρ : tcS) : Prop := ρ.1 = τ.1 ∧ (∀ k, k < 5 → ρ.2.1 k = τ.2.1 k) ∧ (∀ k, k ≠ 2 → ρ.2.2.1 k = τ.2.2.1 k) ∧ (∀ k, k < 4 → ρ.2.2.2 k = τ.2.2.2 k)
theorem tm_sr.rf {τ : tcS} : tm_sr τ τ := ⟨rfl, fun _ _ => rfl, fun _ _ => rfl, fun _ _ => rfl⟩
theorem tm_sr.tr {τ ρ κ : tcS} (h : tm_sr τ ρ) (k : tm_sr ρ κ) : tm_sr τ κ := ⟨k.1.trans h.1, fun j hj => (k.2.1 j hj).trans (h.2.1 j hj), fun j hj => (k.2.2.1 j hj).trans (h.2.2.1 j hj), fun j hj => (k.2.2.2 j hj).trans (h.2.2.2 j hj)⟩
theorem tm_tell_sr (τ : tcS) (t h g w : Nat) : tm_sr τ (tm_tell τ t h g w) := by
  refine ⟨rfl, fun k hk => ?_, fun k hk => ?_, fun k hk => ?_⟩
  · show va_up (va_up (va_up τ.2.1 5 _) 6 _) 7 _ k = _
    simp [va_up, show k ≠ 5 by omega, show k ≠ 6 by omega, show k ≠ 7 by omega]
  · show va_up τ.2.2.1 2 _ k = _
    simp [va_up, hk]
  · show va_up τ.2.2.2 4 _ k = _
    simp [va_up, show k ≠ 4 by omega]
/-- how many of n places from i on have tools of kind k -/
def tm_cn (kd od : Nat → Nat) (k : Nat) : Nat → Nat → Nat
  | 0, _ => 0
  | n + 1, i => (if kd (od i) = k then 1 else 0) + tm_cn kd od k n (i + 1)
def tm_fg (k h g : Nat) : Nat → Nat → tcS → Option Nat × tcS
  | 0, _, τ => (none, τ)
  | n + 1, i, τ => if τ.2.1 0 (τ.2.1 1 i) = k then
      (if tm_why τ (τ.2.1 1 i) h g = 0 then (some (τ.2.1 1 i), tm_tell τ (τ.2.1 1 i) h g (tm_why τ (τ.2.1 1 i) h g))
       else tm_fg k h g n (i + 1) (tm_tell τ (τ.2.1 1 i) h g (tm_why τ (τ.2.1 1 i) h g)))
    else tm_fg k h g n (i + 1) τ
theorem tm_fg_k {k h g : Nat} : ∀ (n i : Nat) {τ : tcS}, tm_I τ → τ.2.2.2 4 + tm_cn (τ.2.1 0) (τ.2.1 1) k n i ≤ 200 → tm_I (tm_fg k h g n i τ).2 ∧ tm_sr τ (tm_fg k h g n i τ).2 ∧ (tm_fg k h g n i τ).2.2.2.2 4 ≤ τ.2.2.2 4 + tm_cn (τ.2.1 0) (τ.2.1 1) k n i
  | 0, _, _, hI, _ => ⟨hI, tm_sr.rf, Nat.le_add_right _ _⟩
  | n + 1, i, τ, hI, hn => by
    unfold tm_fg
    unfold tm_cn at hn ⊢
    split
    · rename_i hk
      rw [if_pos hk] at hn
      have hs := tm_tell_sr τ (τ.2.1 1 i) h g (tm_why τ (τ.2.1 1 i) h g)
      have h4 : (tm_tell τ (τ.2.1 1 i) h g (tm_why τ (τ.2.1 1 i) h g)).2.2.2 4 = τ.2.2.2 4 + 1 := rfl
      have hI2 := tm_tell_I hI (τ.2.1 1 i) h g (tm_why τ (τ.2.1 1 i) h g) (by omega)
      split
      · exact ⟨hI2, hs, by rw [h4]; omega⟩
      · have ih := tm_fg_k (k := k) (h := h) (g := g) n (i + 1) hI2 (by rw [h4, hs.2.1 0 (by omega), hs.2.1 1 (by omega)]; omega)
        rw [h4, hs.2.1 0 (by omega), hs.2.1 1 (by omega)] at ih
        exact ⟨ih.1, hs.tr ih.2.1, by omega⟩
    · rename_i hk
      rw [if_neg hk] at hn
      have ih := tm_fg_k (k := k) (h := h) (g := g) n (i + 1) hI (by omega)
      exact ⟨ih.1, ih.2.1, by omega⟩
theorem tm_fg_lt {k h g : Nat} : ∀ (n i : Nat) {τ : tcS} {t : Nat}, (∀ i, i < τ.2.2.2 1 → τ.2.1 1 i < τ.2.2.2 1) → i + n ≤ τ.2.2.2 1 → (tm_fg k h g n i τ).1 = some t → t < τ.2.2.2 1
  | 0, _, _, _, _, _, h => by simp [tm_fg] at h
  | n + 1, i, τ, t, hO, hn, h => by
    have h1 := hO i (by omega)
    unfold tm_fg at h
    split at h
    · split at h
      · simp at h
        omega
      · have hs := fun h g w => tm_tell_sr τ (τ.2.1 1 i) h g w
        have := tm_fg_lt n (i + 1) (by rw [(hs _ _ _).2.1 1 (by omega), (hs _ _ _).2.2.2 1 (by omega)]; exact hO) (by rw [(hs _ _ _).2.2.2 1 (by omega)]; omega) h
        rw [(hs _ _ _).2.2.2 1 (by omega)] at this
        exact this
    · exact tm_fg_lt n (i + 1) hO (by omega) h
end
section
set_option maxHeartbeats 4000000 in
set_option maxRecDepth 100000 in
theorem ml_look_3 {k h g : Nat} (hk : k < 8) {K : tcK} : ∀ (n : Nat) (i : Nat) (ρ : tcS), tm_I ρ → h < ρ.2.2.2 0 → g < ρ.2.2.2 0 → i + n = ρ.2.2.2 1 → ρ.2.2.2 4 + tm_cn (ρ.2.1 0) (ρ.2.1 1) k n i ≤ 200 → K.2.1 = some (.inl (tc_oI (tm_fg k h g n i ρ).1)) → K.2.2.1 = tm_h (tm_fg k h g n i ρ).2 → tc_V (cMO_look, 7, yMO_look.cls, some .int, 5, yMO_look.name) K 0 0 (tm_h ρ) 3 [some (.inr (some 0)), some (.inl (nI k)), some (.inl (nI h)), some (.inl (nI g)), some (.inl (nI i)), none, none] [] := by
  intro n
  induction n with
  | zero =>
    intro i ρ hI hh0 hg0 hi hR hr hh
    obtain ⟨iP, iT, iN, iA, iR, iK, iO, iQ, iF, iB, iW⟩ := id hI
    refine tv_iload dMO_look_3 rfl ?_
    refine tv_aload_n dMO_look_5 rfl rfl ?_
    refine gMO_75 rfl dMO_look_6 ?_
    refine tv_icmp_ge (tgt := 69) dMO_look_9 (by decide) (fun c9 => ?_) (fun c9 => absurd (nI_le (by omega) (by omega)) c9)
    refine tv_iconst (v := -1) dMO_look_69 (by decide) ?_
    exact tv_iret dMO_look_70 rfl rfl hr hh
  | succ n ih =>
    intro i ρ hI hh0 hg0 hi hR hr hh
    obtain ⟨iP, iT, iN, iA, iR, iK, iO, iQ, iF, iB, iW⟩ := id hI
    have hO := iO i (by omega)
    unfold tm_cn at hR
    refine tv_iload dMO_look_3 rfl ?_
    refine tv_aload_n dMO_look_5 rfl rfl ?_
    refine gMO_75 rfl dMO_look_6 ?_
    refine tv_icmp_ge (tgt := 69) dMO_look_9 (by decide) (fun c9 => absurd c9 (nI_ge (by omega) (by omega))) (fun c9 => ?_)
    refine tv_aload_n dMO_look_12 rfl rfl ?_
    refine gMO_25 rfl dMO_look_13 ?_
    refine tv_iload dMO_look_16 rfl ?_
    refine ldM_6 dMO_look_18 (by omega) ?_
    refine tv_ist_5 dMO_look_19 (by decide) ?_
    refine tv_aload_n dMO_look_21 rfl rfl ?_
    refine gMO_13 rfl dMO_look_22 ?_
    refine tv_iload dMO_look_25 rfl ?_
    refine ldM_2 dMO_look_27 (by omega) ?_
    refine tv_iload_n dMO_look_28 rfl rfl ?_
    refine tv_icmp_eq (tgt := 35) dMO_look_29 (by decide) (fun c29 => ?_) (fun c29 => ?_)
    · have d29 : ρ.2.1 0 (ρ.2.1 1 i) = k := (nI_eq (by have := iK _ hO; omega) (by omega)).mp c29
      rw [if_pos d29] at hR
      refine tv_aload_n dMO_look_35 rfl rfl ?_
      refine tv_iload dMO_look_36 rfl ?_
      refine tv_iload_n dMO_look_38 rfl rfl ?_
      refine tv_iload_n dMO_look_39 rfl rfl ?_
      refine tv_callV3r kMO_127 (by decide) (Nat.le_of_ble_eq_true rfl) ⟨rfl, rfl⟩ rfl (mm_why ρ hI hO hh0 hg0) ⟨Nat.zero_le _, Nat.zero_le _⟩ dMO_look_40 ?_
      refine tv_ist_6 dMO_look_43 (by decide) ?_
      refine tv_aload_n dMO_look_45 rfl rfl ?_
      refine tv_iload dMO_look_46 rfl ?_
      refine tv_iload_n dMO_look_48 rfl rfl ?_
      refine tv_iload_n dMO_look_49 rfl rfl ?_
      refine tv_iload dMO_look_50 rfl ?_
      refine tv_callV4v kMO_131 (by decide) (Nat.le_of_ble_eq_true rfl) ⟨rfl, rfl⟩ rfl (mm_tell ρ hI hO hh0 hg0 _ (tm_why_lt _ _ _ _) (by omega)) ⟨Nat.zero_le _, Nat.zero_le _⟩ dMO_look_52 ?_
      refine tv_iload dMO_look_55 rfl ?_
      refine tv_if_ne (tgt := 63) dMO_look_57 (by decide) (fun c57 => ?_) (fun c57 => ?_)
      · have d66 : ¬ tm_why ρ (ρ.2.1 1 i) h g = 0 := fun q => c57 (by rw [q]; rfl)
        have e29 : tm_fg k h g (n + 1) i ρ = tm_fg k h g n (i + 1) (tm_tell ρ (ρ.2.1 1 i) h g (tm_why ρ (ρ.2.1 1 i) h g)) := by rw [tm_fg, if_pos d29, if_neg d66]
        have hs := tm_tell_sr ρ (ρ.2.1 1 i) h g (tm_why ρ (ρ.2.1 1 i) h g)
        have h4 : (tm_tell ρ (ρ.2.1 1 i) h g (tm_why ρ (ρ.2.1 1 i) h g)).2.2.2 4 = ρ.2.2.2 4 + 1 := rfl
        have h9 := ih (i + 1) (tm_tell ρ (ρ.2.1 1 i) h g (tm_why ρ (ρ.2.1 1 i) h g)) (tm_tell_I hI _ _ _ _ (by omega)) (by rw [hs.2.2.2 0 (by omega)]; exact hh0) (by rw [hs.2.2.2 0 (by omega)]; exact hg0) (by rw [hs.2.2.2 1 (by omega)]; omega) (by rw [h4, hs.2.1 0 (by omega), hs.2.1 1 (by omega)]; omega) (by rw [hr, e29]) (by rw [hh, e29])
        refine tv_iinc_4 dMO_look_63 (by decide) (nI_1 i) ?_
        refine tv_goto (tgt := 3) dMO_look_66 (by decide) ?_
        refine tv_fg_5 ?_
        refine tv_fg_6 ?_
        exact h9
      · have d66 : tm_why ρ (ρ.2.1 1 i) h g = 0 := (nI_eq (by have := tm_why_lt ρ (ρ.2.1 1 i) h g; omega) (by omega)).mp c57
        have e29 : tm_fg k h g (n + 1) i ρ = (some (ρ.2.1 1 i), tm_tell ρ (ρ.2.1 1 i) h g (tm_why ρ (ρ.2.1 1 i) h g)) := by rw [tm_fg, if_pos d29, if_pos d66]
        refine tv_iload dMO_look_60 rfl ?_
        exact tv_iret dMO_look_62 rfl rfl (by rw [hr, e29]; rfl) (by rw [hh, e29])
    · have d29 : ¬ ρ.2.1 0 (ρ.2.1 1 i) = k := fun q => c29 (by rw [q])
      rw [if_neg d29] at hR
      have e29 : tm_fg k h g (n + 1) i ρ = tm_fg k h g n (i + 1) ρ := by rw [tm_fg, if_neg d29]
      have h9 := ih (i + 1) ρ hI hh0 hg0 (by omega) (by omega) (by rw [hr, e29]) (by rw [hh, e29])
      refine tv_goto (tgt := 63) dMO_look_32 (by decide) ?_
      refine tv_iinc_4 dMO_look_63 (by decide) (nI_1 i) ?_
      refine tv_goto (tgt := 3) dMO_look_66 (by decide) ?_
      refine tv_fg_5 ?_
      refine tv_fg_6 ?_
      exact h9
set_option maxHeartbeats 4000000 in
set_option maxRecDepth 100000 in
theorem mm_look (τ : tcS) (hI : tm_I τ) {k h g : Nat} (hk : k < 8) (hh0 : h < τ.2.2.2 0) (hg0 : g < τ.2.2.2 0) (hR : τ.2.2.2 4 + tm_cn (τ.2.1 0) (τ.2.1 1) k (τ.2.2.2 1) 0 ≤ 200) : tc_M yMO_look cMO_look 7 (some .int) 5 [.inr (some 0), .inl (nI k), .inl (nI h), .inl (nI g)] (tm_h τ, some (.inl (tc_oI (tm_fg k h g (τ.2.2.2 1) 0 τ).1)), tm_h (tm_fg k h g (τ.2.2.2 1) 0 τ).2, 0, 0) := by
  refine tc_met (by decide) (Nat.le_of_ble_eq_true rfl) (Nat.le_of_eq tm_len) rfl ?_
  refine tv_iconst (v := 0) dMO_look_0 (by decide) ?_
  refine tv_ist_4 dMO_look_1 (by decide) ?_
  exact ml_look_3 hk (τ.2.2.2 1) 0 τ hI hh0 hg0 (by omega) hR rfl rfl
def tm_c1 (j : Nat) (ρ : tcS) : tcS := tc_s3 ρ 1 (va_up (ρ.2.2.1 1) j none)
def tm_t0 (τ : tcS) : tcS := tc_up tm_c1 8 0 τ
def tm_ts (h g k : Nat) (τ : tcS) : tcS := tc_s3 (tm_fg k h g (τ.2.2.2 1) 0 τ).2 1 (va_up ((tm_fg k h g (τ.2.2.2 1) 0 τ).2.2.2.1 1) k (tm_fg k h g (τ.2.2.2 1) 0 τ).1)
def tm_tt (h g : Nat) : Nat → Nat → tcS → Bool × tcS
  | 0, _, τ => (true, τ)
  | n + 1, i, τ =>
    if (tm_fg (τ.2.1 2 i) h g (τ.2.2.2 1) 0 τ).1 = none ∧ ¬ τ.1 11 (τ.2.1 2 i) = 0 then (false, tm_ts h g (τ.2.1 2 i) τ)
    else tm_tt h g n (i + 1) (tm_ts h g (τ.2.1 2 i) τ)
def tm_take (h g : Nat) (τ : tcS) : Bool × tcS := tm_tt h g (τ.2.2.2 3) 0 (tm_t0 τ)
def tm_ch (g : Nat) : Nat → Nat → tcS → Option Nat × tcS
  | 0, _, τ => (none, tm_t0 τ)
  | n + 1, h, τ => if (tm_take h g τ).1 = true then (some h, (tm_take h g τ).2) else tm_ch g n (h + 1) (tm_take h g τ).2
def tm_choose (g : Nat) (τ : tcS) : Option Nat × tcS := tm_ch g (τ.2.2.2 0) 0 (tm_build (tc_s4 τ 4 0))
/-- how many rows n asked kinds from i on may want -/
def tm_sm (τ : tcS) : Nat → Nat → Nat
  | 0, _ => 0
  | n + 1, i => tm_cn (τ.2.1 0) (τ.2.1 1) (τ.2.1 2 i) (τ.2.2.2 1) 0 + tm_sm τ n (i + 1)
/-- what choosing leaves as it was -/
def tm_sc (τ ρ : tcS) : Prop := ρ.1 = τ.1 ∧ (∀ k, k < 5 → ρ.2.1 k = τ.2.1 k) ∧ (∀ k, k ≠ 2 → k ≠ 1 → ρ.2.2.1 k = τ.2.2.1 k) ∧ (∀ k, k < 4 → ρ.2.2.2 k = τ.2.2.2 k)
theorem tm_sc.rf {τ : tcS} : tm_sc τ τ := ⟨rfl, fun _ _ => rfl, fun _ _ _ => rfl, fun _ _ => rfl⟩
theorem tm_sc.tr {τ ρ κ : tcS} (h : tm_sc τ ρ) (k : tm_sc ρ κ) : tm_sc τ κ := ⟨k.1.trans h.1, fun j hj => (k.2.1 j hj).trans (h.2.1 j hj), fun j hj hj2 => (k.2.2.1 j hj hj2).trans (h.2.2.1 j hj hj2), fun j hj => (k.2.2.2 j hj).trans (h.2.2.2 j hj)⟩
theorem tm_sm_cg {τ ρ : tcS} (h : tm_sc τ ρ) : ∀ n i, tm_sm ρ n i = tm_sm τ n i
  | 0, _ => rfl
  | n + 1, i => by
    unfold tm_sm
    rw [tm_sm_cg h n (i + 1), h.2.1 0 (by omega), h.2.1 1 (by omega), h.2.1 2 (by omega), h.2.2.2 1 (by omega)]
theorem tm_c1_sc (j : Nat) (ρ : tcS) : tm_sc ρ (tm_c1 j ρ) := ⟨rfl, fun _ _ => rfl, fun k _ h1 => by
  show va_up ρ.2.2.1 1 _ k = _
  simp [va_up, h1], fun _ _ => rfl⟩
theorem tm_t0_k (τ : tcS) : tm_sc τ (tm_t0 τ) ∧ (tm_t0 τ).2.2.2 4 = τ.2.2.2 4 := by
  have h := tc_up_rel (R := fun (a b : tcS) => tm_sc a b ∧ b.2.2.2 4 = a.2.2.2 4) (fun _ => ⟨tm_sc.rf, rfl⟩) (fun _ _ _ h k => ⟨h.1.tr k.1, k.2.trans h.2⟩) (f := tm_c1) (fun j a => ⟨tm_c1_sc j a, rfl⟩) 8 0 τ
  exact h
theorem tm_sc.I {τ ρ : tcS} (h : tm_sc τ ρ) (hI : tm_I τ) (h4 : ρ.2.2.2 4 ≤ 200) : tm_I ρ := by
  obtain ⟨iP, iT, iN, iA, iR, iK, iO, iQ, iF, iB, iW⟩ := hI
  unfold tm_I
  rw [h.1, h.2.1 0 (by omega), h.2.1 1 (by omega), h.2.1 2 (by omega), h.2.1 3 (by omega), h.2.1 4 (by omega), h.2.2.1 0 (by omega) (by omega), h.2.2.2 0 (by omega), h.2.2.2 1 (by omega), h.2.2.2 2 (by omega), h.2.2.2 3 (by omega)]
  exact ⟨iP, iT, iN, iA, h4, iK, iO, iQ, iF, iB, iW⟩
theorem tm_ts_k {h g k : Nat} {τ : tcS} (hI : tm_I τ) (hR : τ.2.2.2 4 + tm_cn (τ.2.1 0) (τ.2.1 1) k (τ.2.2.2 1) 0 ≤ 200) : tm_sc τ (tm_ts h g k τ) ∧ (tm_ts h g k τ).2.2.2 4 ≤ τ.2.2.2 4 + tm_cn (τ.2.1 0) (τ.2.1 1) k (τ.2.2.2 1) 0 := by
  obtain ⟨h1, h2, h3⟩ := tm_fg_k (k := k) (h := h) (g := g) (τ.2.2.2 1) 0 hI hR
  refine ⟨⟨h2.1, h2.2.1, fun j a b => ?_, h2.2.2.2⟩, h3⟩
  show va_up (tm_fg k h g (τ.2.2.2 1) 0 τ).2.2.2.1 1 _ j = _
  rw [show va_up (tm_fg k h g (τ.2.2.2 1) 0 τ).2.2.2.1 1 _ j = (tm_fg k h g (τ.2.2.2 1) 0 τ).2.2.2.1 j by simp [va_up, b]]
  exact h2.2.2.1 j a
theorem tm_tt_k {h g : Nat} : ∀ (n i : Nat) {τ : tcS}, tm_I τ → τ.2.2.2 4 + tm_sm τ n i ≤ 200 → tm_sc τ (tm_tt h g n i τ).2 ∧ (tm_tt h g n i τ).2.2.2.2 4 ≤ τ.2.2.2 4 + tm_sm τ n i
  | 0, _, _, _, _ => ⟨tm_sc.rf, Nat.le_add_right _ _⟩
  | n + 1, i, τ, hI, hR => by
    unfold tm_sm at hR ⊢
    have hk := tm_ts_k (h := h) (g := g) (k := τ.2.1 2 i) hI (by omega)
    unfold tm_tt
    split
    · exact ⟨hk.1, Nat.le_trans hk.2 (by omega)⟩
    · have ih := tm_tt_k (h := h) (g := g) n (i + 1) (hk.1.I hI (by omega)) (by rw [tm_sm_cg hk.1]; omega)
      rw [tm_sm_cg hk.1] at ih
      exact ⟨hk.1.tr ih.1, by omega⟩
theorem tm_take_k {h g : Nat} {τ : tcS} (hI : tm_I τ) (hR : τ.2.2.2 4 + tm_sm τ (τ.2.2.2 3) 0 ≤ 200) : tm_sc τ (tm_take h g τ).2 ∧ (tm_take h g τ).2.2.2.2 4 ≤ τ.2.2.2 4 + tm_sm τ (τ.2.2.2 3) 0 := by
  have h0 := tm_t0_k τ
  have h1 := tm_tt_k (h := h) (g := g) (τ.2.2.2 3) 0 (h0.1.I hI (by rw [h0.2]; omega)) (by rw [tm_sm_cg h0.1, h0.2]; exact hR)
  rw [tm_sm_cg h0.1, h0.2] at h1
  exact ⟨h0.1.tr h1.1, h1.2⟩
set_option maxHeartbeats 4000000 in
set_option maxRecDepth 100000 in
theorem ml_tryOn_2 {x1 x2 : Option tcV} {K : tcK} : ∀ (n : Nat) (j : Nat) (ρ : tcS), j + n = 8 → tc_V (cMO_tryOn, 5, yMO_tryOn.cls, some .boolean, 6, yMO_tryOn.name) K 0 0 (tm_h (tc_up tm_c1 n j ρ)) 21 [some (.inr (some 0)), x1, x2, none, none] [] → tc_V (cMO_tryOn, 5, yMO_tryOn.cls, some .boolean, 6, yMO_tryOn.name) K 0 0 (tm_h ρ) 2 [some (.inr (some 0)), x1, x2, some (.inl (nI j)), none] [] := by
  intro n
  induction n with
  | zero =>
    intro j ρ hj hx
    refine tv_iload_n dMO_tryOn_2 rfl rfl ?_
    refine tv_bipush (v := 8) dMO_tryOn_3 (by decide) ?_
    refine tv_icmp_ge (tgt := 21) dMO_tryOn_5 (by decide) (fun c5 => ?_) (fun c5 => absurd (nI_le (a := 8) (b := j) (by omega) (by omega)) c5)
    refine tv_fg_3 ?_
    exact hx
  | succ n ih =>
    intro j ρ hj hx
    refine tv_iload_n dMO_tryOn_2 rfl rfl ?_
    refine tv_bipush (v := 8) dMO_tryOn_3 (by decide) ?_
    refine tv_icmp_ge (tgt := 21) dMO_tryOn_5 (by decide) (fun c5 => absurd c5 (nI_ge (a := j) (b := 8) (by omega) (by omega))) (fun c5 => ?_)
    refine tv_aload_n dMO_tryOn_8 rfl rfl ?_
    refine gMO_43 rfl dMO_tryOn_9 ?_
    refine tv_iload_n dMO_tryOn_12 rfl rfl ?_
    refine tv_iconst (v := -1) dMO_tryOn_13 (by decide) ?_
    refine stM_12 none dMO_tryOn_14 (by omega) ?_
    refine tv_iinc_3 dMO_tryOn_15 (by decide) (nI_1 j) ?_
    refine tv_goto (tgt := 2) dMO_tryOn_18 (by decide) ?_
    exact ih (j + 1) (tm_c1 j ρ) (by omega) hx
set_option maxHeartbeats 4000000 in
set_option maxRecDepth 100000 in
theorem ml_tryOn_23 {h g : Nat} {K : tcK} : ∀ (n : Nat) (i : Nat) (ρ : tcS), tm_I ρ → h < ρ.2.2.2 0 → g < ρ.2.2.2 0 → i + n = ρ.2.2.2 3 → ρ.2.2.2 4 + tm_sm ρ n i ≤ 200 → K.2.1 = some (.inl (tc_b2 (tm_tt h g n i ρ).1)) → K.2.2.1 = tm_h (tm_tt h g n i ρ).2 → tc_V (cMO_tryOn, 5, yMO_tryOn.cls, some .boolean, 6, yMO_tryOn.name) K 0 0 (tm_h ρ) 23 [some (.inr (some 0)), some (.inl (nI h)), some (.inl (nI g)), some (.inl (nI i)), none] [] := by
  intro n
  induction n with
  | zero =>
    intro i ρ hI hh0 hg0 hi hR hr hh
    obtain ⟨iP, iT, iN, iA, iR, iK, iO, iQ, iF, iB, iW⟩ := id hI
    refine tv_iload_n dMO_tryOn_23 rfl rfl ?_
    refine tv_aload_n dMO_tryOn_24 rfl rfl ?_
    refine gMO_92 rfl dMO_tryOn_25 ?_
    refine tv_icmp_ge (tgt := 83) dMO_tryOn_28 (by decide) (fun c28 => ?_) (fun c28 => absurd (nI_le (by omega) (by omega)) c28)
    refine tv_iconst (v := 1) dMO_tryOn_83 (by decide) ?_
    exact tv_iret dMO_tryOn_84 rfl rfl hr hh
  | succ n ih =>
    intro i ρ hI hh0 hg0 hi hR hr hh
    obtain ⟨iP, iT, iN, iA, iR, iK, iO, iQ, iF, iB, iW⟩ := id hI
    have hk := iQ i (by omega)
    unfold tm_sm at hR
    have hb : ∀ a, (tm_fg (ρ.2.1 2 i) h g (ρ.2.2.2 1) 0 ρ).1 = some a → a < 2 ^ 31 := fun a q => by have := tm_fg_lt (ρ.2.2.2 1) 0 iO (by omega) q; omega
    have hts := tm_ts_k (h := h) (g := g) (k := ρ.2.1 2 i) hI (by omega)
    refine tv_iload_n dMO_tryOn_23 rfl rfl ?_
    refine tv_aload_n dMO_tryOn_24 rfl rfl ?_
    refine gMO_92 rfl dMO_tryOn_25 ?_
    refine tv_icmp_ge (tgt := 83) dMO_tryOn_28 (by decide) (fun c28 => absurd c28 (nI_ge (by omega) (by omega))) (fun c28 => ?_)
    refine tv_aload_n dMO_tryOn_31 rfl rfl ?_
    refine gMO_34 rfl dMO_tryOn_32 ?_
    refine tv_iload_n dMO_tryOn_35 rfl rfl ?_
    refine ldM_9 dMO_tryOn_36 (by omega) ?_
    refine tv_ist_4 dMO_tryOn_37 (by decide) ?_
    refine tv_aload_n dMO_tryOn_39 rfl rfl ?_
    refine gMO_43 rfl dMO_tryOn_40 ?_
    refine tv_iload dMO_tryOn_43 rfl ?_
    refine tv_aload_n dMO_tryOn_45 rfl rfl ?_
    refine tv_iload dMO_tryOn_46 rfl ?_
    refine tv_iload_n dMO_tryOn_48 rfl rfl ?_
    refine tv_iload_n dMO_tryOn_49 rfl rfl ?_
    refine tv_callV3r kMO_135 (by decide) (Nat.le_of_ble_eq_true rfl) ⟨rfl, rfl⟩ rfl (mm_look ρ hI hk hh0 hg0 (by omega)) ⟨Nat.zero_le _, Nat.zero_le _⟩ dMO_tryOn_50 ?_
    refine stM_12 (tm_fg (ρ.2.1 2 i) h g (ρ.2.2.2 1) 0 ρ).1 dMO_tryOn_53 hk ?_
    refine tv_eq (h' := tm_h (tm_ts h g (ρ.2.1 2 i) ρ)) ?_ rfl rfl rfl
    refine tv_aload_n dMO_tryOn_54 rfl rfl ?_
    refine gMO_43 rfl dMO_tryOn_55 ?_
    refine tv_iload dMO_tryOn_58 rfl ?_
    refine ldM_12 dMO_tryOn_60 hk ?_
    refine tv_top (b := .inl (tc_oI (tm_fg (ρ.2.1 2 i) h g (ρ.2.2.2 1) 0 ρ).1)) (by simp [tm_ts, tc_s3, va_up]) ?_
    refine tv_iconst (v := -1) dMO_tryOn_61 (by decide) ?_
    refine tv_icmp_ne (tgt := 77) dMO_tryOn_62 (by decide) (fun c62 => ?_) (fun c62 => ?_)
    · have d71 : ¬ ((tm_fg (ρ.2.1 2 i) h g (ρ.2.2.2 1) 0 ρ).1 = none ∧ ¬ ρ.1 11 (ρ.2.1 2 i) = 0) := fun q => c62 ((tc_oI_m1 hb).mpr q.1)
      refine tv_iinc_3 dMO_tryOn_77 (by decide) (nI_1 i) ?_
      refine tv_goto (tgt := 23) dMO_tryOn_80 (by decide) ?_
      have e71 : tm_tt h g (n + 1) i ρ = tm_tt h g n (i + 1) (tm_ts h g (ρ.2.1 2 i) ρ) := by rw [tm_tt, if_neg d71]
      have h9 := ih (i + 1) (tm_ts h g (ρ.2.1 2 i) ρ) (hts.1.I hI (by omega)) (by rw [hts.1.2.2.2 0 (by omega)]; exact hh0) (by rw [hts.1.2.2.2 0 (by omega)]; exact hg0) (by rw [hts.1.2.2.2 3 (by omega)]; omega) (by rw [tm_sm_cg hts.1]; omega) (by rw [hr, e71]) (by rw [hh, e71])
      refine tv_fg_4 ?_
      exact h9
    · have d54 := (tc_oI_m1 hb).mp c62
      refine tv_aload_n dMO_tryOn_65 rfl rfl ?_
      refine gMO_46 rfl dMO_tryOn_66 ?_
      refine tv_iload dMO_tryOn_69 rfl ?_
      refine ldM_13 dMO_tryOn_71 hk ?_
      refine tv_top (b := .inl (ρ.1 11 (ρ.2.1 2 i))) (congrArg Sum.inl (by rw [hts.1.1])) ?_
      refine tv_if_eq (tgt := 77) dMO_tryOn_72 (by decide) (fun c72 => ?_) (fun c72 => ?_)
      · have d71 : ¬ ((tm_fg (ρ.2.1 2 i) h g (ρ.2.2.2 1) 0 ρ).1 = none ∧ ¬ ρ.1 11 (ρ.2.1 2 i) = 0) := fun q => q.2 c72
        refine tv_iinc_3 dMO_tryOn_77 (by decide) (nI_1 i) ?_
        refine tv_goto (tgt := 23) dMO_tryOn_80 (by decide) ?_
        have e71 : tm_tt h g (n + 1) i ρ = tm_tt h g n (i + 1) (tm_ts h g (ρ.2.1 2 i) ρ) := by rw [tm_tt, if_neg d71]
        have h9 := ih (i + 1) (tm_ts h g (ρ.2.1 2 i) ρ) (hts.1.I hI (by omega)) (by rw [hts.1.2.2.2 0 (by omega)]; exact hh0) (by rw [hts.1.2.2.2 0 (by omega)]; exact hg0) (by rw [hts.1.2.2.2 3 (by omega)]; omega) (by rw [tm_sm_cg hts.1]; omega) (by rw [hr, e71]) (by rw [hh, e71])
        refine tv_fg_4 ?_
        exact h9
      · have e69 : tm_tt h g (n + 1) i ρ = (false, tm_ts h g (ρ.2.1 2 i) ρ) := by rw [tm_tt, if_pos ⟨d54, c72⟩]
        refine tv_iconst (v := 0) dMO_tryOn_75 (by decide) ?_
        exact tv_iret dMO_tryOn_76 rfl rfl (by rw [hr, e69]; rfl) (by rw [hh, e69])
set_option maxHeartbeats 4000000 in
set_option maxRecDepth 100000 in
theorem mm_tryOn (τ : tcS) (hI : tm_I τ) {h g : Nat} (hh0 : h < τ.2.2.2 0) (hg0 : g < τ.2.2.2 0) (hR : τ.2.2.2 4 + tm_sm τ (τ.2.2.2 3) 0 ≤ 200) : tc_M yMO_tryOn cMO_tryOn 5 (some .boolean) 6 [.inr (some 0), .inl (nI h), .inl (nI g)] (tm_h τ, some (.inl (tc_b2 (tm_take h g τ).1)), tm_h (tm_take h g τ).2, 0, 0) := by
  refine tc_met (by decide) (Nat.le_of_ble_eq_true rfl) (Nat.le_of_eq tm_len) rfl ?_
  refine tv_iconst (v := 0) dMO_tryOn_0 (by decide) ?_
  refine tv_istN_3 dMO_tryOn_1 (by decide) ?_
  have h0 := tm_t0_k τ
  refine ml_tryOn_2 8 0 τ rfl ?_
  refine tv_iconst (v := 0) dMO_tryOn_21 (by decide) ?_
  refine tv_istN_3 dMO_tryOn_22 (by decide) ?_
  exact ml_tryOn_23 (τ.2.2.2 3) 0 (tm_t0 τ) (h0.1.I hI (by rw [h0.2]; omega)) (by rw [h0.1.2.2.2 0 (by omega)]; exact hh0) (by rw [h0.1.2.2.2 0 (by omega)]; exact hg0) (by rw [h0.1.2.2.2 3 (by omega)]; omega) (by rw [tm_sm_cg h0.1, h0.2]; exact hR) rfl rfl
set_option maxHeartbeats 4000000 in
set_option maxRecDepth 100000 in
theorem ml_choose_53 {x1 : Option tcV} {K : tcK} : ∀ (n : Nat) (j : Nat) (ρ : tcS), j + n = 8 → K.2.1 = some (.inl (-1)) → K.2.2.1 = tm_h (tc_up tm_c1 n j ρ) → tc_V (cMO_choose, 3, yMO_choose.cls, some .int, 7, yMO_choose.name) K 0 0 (tm_h ρ) 53 [some (.inr (some 0)), x1, some (.inl (nI j))] [] := by
  intro n
  induction n with
  | zero =>
    intro j ρ hj hr hh
    refine tv_iload_n dMO_choose_53 rfl rfl ?_
    refine tv_bipush (v := 8) dMO_choose_54 (by decide) ?_
    refine tv_icmp_ge (tgt := 72) dMO_choose_56 (by decide) (fun c56 => ?_) (fun c56 => absurd (nI_le (a := 8) (b := j) (by omega) (by omega)) c56)
    refine tv_iconst (v := -1) dMO_choose_72 (by decide) ?_
    exact tv_iret dMO_choose_73 rfl rfl hr hh
  | succ n ih =>
    intro j ρ hj hr hh
    refine tv_iload_n dMO_choose_53 rfl rfl ?_
    refine tv_bipush (v := 8) dMO_choose_54 (by decide) ?_
    refine tv_icmp_ge (tgt := 72) dMO_choose_56 (by decide) (fun c56 => absurd c56 (nI_ge (a := j) (b := 8) (by omega) (by omega))) (fun c56 => ?_)
    refine tv_aload_n dMO_choose_59 rfl rfl ?_
    refine gMO_43 rfl dMO_choose_60 ?_
    refine tv_iload_n dMO_choose_63 rfl rfl ?_
    refine tv_iconst (v := -1) dMO_choose_64 (by decide) ?_
    refine stM_12 none dMO_choose_65 (by omega) ?_
    refine tv_iinc_2 dMO_choose_66 (by decide) (nI_1 j) ?_
    refine tv_goto (tgt := 53) dMO_choose_69 (by decide) ?_
    exact ih (j + 1) (tm_c1 j ρ) (by omega) hr hh
set_option maxHeartbeats 4000000 in
set_option maxRecDepth 100000 in
theorem ml_choose_26 {g : Nat} {K : tcK} : ∀ (n : Nat) (h : Nat) (ρ : tcS), tm_I ρ → g < ρ.2.2.2 0 → h + n = ρ.2.2.2 0 → ρ.2.2.2 4 + n * tm_sm ρ (ρ.2.2.2 3) 0 ≤ 200 → K.2.1 = some (.inl (tc_oI (tm_ch g n h ρ).1)) → K.2.2.1 = tm_h (tm_ch g n h ρ).2 → tc_V (cMO_choose, 3, yMO_choose.cls, some .int, 7, yMO_choose.name) K 0 0 (tm_h ρ) 26 [some (.inr (some 0)), some (.inl (nI g)), some (.inl (nI h))] [] := by
  intro n
  induction n with
  | zero =>
    intro h ρ hI hg0 hh0 hR hr hh
    obtain ⟨iP, iT, iN, iA, iR, iK, iO, iQ, iF, iB, iW⟩ := id hI
    refine tv_iload_n dMO_choose_26 rfl rfl ?_
    refine tv_aload_n dMO_choose_27 rfl rfl ?_
    refine gMO_72 rfl dMO_choose_28 ?_
    refine tv_icmp_ge (tgt := 51) dMO_choose_31 (by decide) (fun c31 => ?_) (fun c31 => absurd (nI_le (by omega) (by omega)) c31)
    refine tv_iconst (v := 0) dMO_choose_51 (by decide) ?_
    refine tv_istN_2 dMO_choose_52 (by decide) ?_
    exact ml_choose_53 8 0 ρ rfl hr hh
  | succ n ih =>
    intro h ρ hI hg0 hh0 hR hr hh
    obtain ⟨iP, iT, iN, iA, iR, iK, iO, iQ, iF, iB, iW⟩ := id hI
    rw [Nat.succ_mul] at hR
    have hk := tm_take_k (h := h) (g := g) hI (by omega)
    refine tv_iload_n dMO_choose_26 rfl rfl ?_
    refine tv_aload_n dMO_choose_27 rfl rfl ?_
    refine gMO_72 rfl dMO_choose_28 ?_
    refine tv_icmp_ge (tgt := 51) dMO_choose_31 (by decide) (fun c31 => absurd c31 (nI_ge (by omega) (by omega))) (fun c31 => ?_)
    refine tv_aload_n dMO_choose_34 rfl rfl ?_
    refine tv_iload_n dMO_choose_35 rfl rfl ?_
    refine tv_iload_n dMO_choose_36 rfl rfl ?_
    refine tv_callV2r kMO_138 (by decide) (Nat.le_of_ble_eq_true rfl) ⟨rfl, rfl⟩ rfl (mm_tryOn ρ hI (by omega) hg0 (by omega)) ⟨Nat.zero_le _, Nat.zero_le _⟩ dMO_choose_37 ?_
    refine tv_if_eq (tgt := 45) dMO_choose_40 (by decide) (fun c40 => ?_) (fun c40 => ?_)
    · refine tv_iinc_2 dMO_choose_45 (by decide) (nI_1 h) ?_
      refine tv_goto (tgt := 26) dMO_choose_48 (by decide) ?_
      have e37 : tm_ch g (n + 1) h ρ = tm_ch g n (h + 1) (tm_take h g ρ).2 := by rw [tm_ch, if_neg (by rw [tc_b2_0.mp c40]; simp)]
      exact ih (h + 1) _ (hk.1.I hI (by omega)) (by rw [hk.1.2.2.2 0 (by omega)]; exact hg0) (by rw [hk.1.2.2.2 0 (by omega)]; omega) (by rw [hk.1.2.2.2 3 (by omega), tm_sm_cg hk.1]; omega) (by rw [hr, e37]) (by rw [hh, e37])
    · have e37 : tm_ch g (n + 1) h ρ = (some h, (tm_take h g ρ).2) := by rw [tm_ch, if_pos (tc_b2_n.mp c40)]
      refine tv_iload_n dMO_choose_43 rfl rfl ?_
      exact tv_iret dMO_choose_44 rfl rfl (by rw [hr, e37]; rfl) (by rw [hh, e37])
end
section
def tm_platform (τ : tcS) (c : Int32) : Option Nat × tcS := if τ.2.2.2 0 = 6 then (none, τ) else (some (τ.2.2.2 0), tc_s4 (tc_s1 τ 0 (upd (τ.1 0) (τ.2.2.2 0) c)) 0 (τ.2.2.2 0 + 1))
def tm_tool (τ : tcS) (k : Nat) (r m v : Int32) : Option Nat × tcS := if τ.2.2.2 1 = 24 then (none, τ) else (some (τ.2.2.2 1),
  tc_s4 (tc_s2 (tc_s1 (tc_s1 (tc_s1 (tc_s2 τ 0 (va_up (τ.2.1 0) (τ.2.2.2 1) k)) 1 (upd (τ.1 1) (τ.2.2.2 1) r)) 2 (upd (τ.1 2) (τ.2.2.2 1) m)) 3 (upd (τ.1 3) (τ.2.2.2 1) v)) 1 (va_up (τ.2.1 1) (τ.2.2.2 1) (τ.2.2.2 1))) 1 (τ.2.2.2 1 + 1))
def tm_needs (τ : tcS) (t k : Nat) : Bool × tcS := if τ.2.2.2 2 = 40 ∨ tm_wants τ t k = true then (false, τ) else (true, tc_s4 (tc_s2 (tc_s2 τ 3 (va_up (τ.2.1 3) (τ.2.2.2 2) t)) 4 (va_up (τ.2.1 4) (τ.2.2.2 2) k)) 2 (τ.2.2.2 2 + 1))
set_option maxHeartbeats 4000000 in
set_option maxRecDepth 100000 in
theorem mp_platform (ρ : tcS) (hI : tm_I ρ) (c : Int32) {K : tcK} (hr : K.2.1 = some (.inl (tc_oI (tm_platform ρ c).1))) (hh : K.2.2.1 = tm_h (tm_platform ρ c).2) : tc_V (cMO_platform, 2, yMO_platform.cls, some .int, 0, yMO_platform.name) K 0 0 (tm_h ρ) 5 [some (.inr (some 0)), some (.inl c)] [] := by
  obtain ⟨iP, iT, iN, iA, iR, iK, iO, iQ, iF, iB, iW⟩ := id hI
  refine tv_aload_n dMO_platform_5 rfl rfl ?_
  refine gMO_72 rfl dMO_platform_6 ?_
  refine tv_bipush (v := 6) dMO_platform_9 (by decide) ?_
  refine tv_icmp_ne (tgt := 16) dMO_platform_11 (by decide) (fun c11 => ?_) (fun c11 => ?_)
  · have d11 : ¬ ρ.2.2.2 0 = 6 := fun q => c11 (by rw [q]; rfl)
    have e6 := show tm_platform ρ c = (some (ρ.2.2.2 0), tc_s4 (tc_s1 ρ 0 (upd (ρ.1 0) (ρ.2.2.2 0) c)) 0 (ρ.2.2.2 0 + 1)) by unfold tm_platform; rw [if_neg d11]
    refine tv_aload_n dMO_platform_16 rfl rfl ?_
    refine gMO_7 rfl dMO_platform_17 ?_
    refine tv_aload_n dMO_platform_20 rfl rfl ?_
    refine gMO_72 rfl dMO_platform_21 ?_
    refine tv_iload_n dMO_platform_24 rfl rfl ?_
    refine stM_1 dMO_platform_25 (by omega) ?_
    refine tv_aload_n dMO_platform_26 rfl rfl ?_
    refine tv_dup dMO_platform_27 ?_
    refine gMO_72 rfl dMO_platform_28 ?_
    refine tv_iconst (v := 1) dMO_platform_31 (by decide) ?_
    refine tv_iadd dMO_platform_32 ?_
    refine tv_top (b := .inl (nI (ρ.2.2.2 0 + 1))) (congrArg Sum.inl (nI_1 _)) ?_
    refine pMO_72 rfl dMO_platform_33 ?_
    refine tv_aload_n dMO_platform_36 rfl rfl ?_
    refine gMO_72 rfl dMO_platform_37 ?_
    refine tv_iconst (v := 1) dMO_platform_40 (by decide) ?_
    refine tv_isub dMO_platform_41 ?_
    refine tv_top (b := .inl (nI (ρ.2.2.2 0))) (congrArg Sum.inl (nI_pred _)) ?_
    exact tv_iret dMO_platform_42 rfl rfl (by rw [hr, e6]; rfl) (by rw [hh, e6])
  · have d11 : ρ.2.2.2 0 = 6 := (nI_eq (b := 6) (by omega) (by omega)).mp c11
    have e6 : tm_platform ρ c = (none, ρ) := by unfold tm_platform; rw [if_pos d11]
    refine tv_iconst (v := -1) dMO_platform_14 (by decide) ?_
    exact tv_iret dMO_platform_15 rfl rfl (by rw [hr, e6]; rfl) (by rw [hh, e6])
set_option maxHeartbeats 4000000 in
set_option maxRecDepth 100000 in
theorem mm_platform (τ : tcS) (hI : tm_I τ) (c : Int32) : tc_M yMO_platform cMO_platform 2 (some .int) 0 [.inr (some 0), .inl c] (tm_h τ, some (.inl (tc_oI (tm_platform (tc_s4 τ 5 0) c).1)), tm_h (tm_platform (tc_s4 τ 5 0) c).2, 0, 0) := by
  refine tc_met (by decide) (Nat.le_of_ble_eq_true rfl) (Nat.le_of_eq tm_len) rfl ?_
  refine tv_aload_n dMO_platform_0 rfl rfl ?_
  refine tv_iconst (v := 0) dMO_platform_1 (by decide) ?_
  refine tv_top (b := .inl (nI 0)) rfl ?_
  refine pMO_68 rfl dMO_platform_2 ?_
  exact mp_platform (tc_s4 τ 5 0) hI c rfl rfl
set_option maxHeartbeats 4000000 in
set_option maxRecDepth 100000 in
theorem mp_tool (ρ : tcS) (hI : tm_I ρ) {k : Nat} (hk : k < 8) (r m v : Int32) {K : tcK} (hr : K.2.1 = some (.inl (tc_oI (tm_tool ρ k r m v).1))) (hh : K.2.2.1 = tm_h (tm_tool ρ k r m v).2) : tc_V (cMO_tool, 5, yMO_tool.cls, some .int, 1, yMO_tool.name) K 0 0 (tm_h ρ) 5 [some (.inr (some 0)), some (.inl (nI k)), some (.inl r), some (.inl m), some (.inl v)] [] := by
  obtain ⟨iP, iT, iN, iA, iR, iK, iO, iQ, iF, iB, iW⟩ := id hI
  refine tv_aload_n dMO_tool_5 rfl rfl ?_
  refine gMO_75 rfl dMO_tool_6 ?_
  refine tv_bipush (v := 24) dMO_tool_9 (by decide) ?_
  refine tv_icmp_eq (tgt := 21) dMO_tool_11 (by decide) (fun c11 => ?_) (fun c11 => ?_)
  · have d6 : ρ.2.2.2 1 = 24 := (nI_eq (b := 24) (by omega) (by omega)).mp c11
    have e6 : tm_tool ρ k r m v = (none, ρ) := by unfold tm_tool; rw [if_pos d6]
    refine tv_iconst (v := -1) dMO_tool_21 (by decide) ?_
    exact tv_iret dMO_tool_22 rfl rfl (by rw [hr, e6]; rfl) (by rw [hh, e6])
  · have d6 : ¬ ρ.2.2.2 1 = 24 := fun q => c11 (by rw [q]; rfl)
    have e6 := show tm_tool ρ k r m v = (some (ρ.2.2.2 1), _) by unfold tm_tool; rw [if_neg d6]
    refine tv_iload_n dMO_tool_14 rfl rfl ?_
    refine tv_callS1r kMO_78 (by decide) (Nat.le_of_ble_eq_true rfl) ⟨rfl, rfl⟩ (mm_isKind _ _) ⟨Nat.zero_le _, Nat.zero_le _⟩ dMO_tool_15 ?_
    refine tv_if_ne (tgt := 23) dMO_tool_18 (by decide) (fun c18 => ?_) (fun c18 => absurd (tc_b2_0.mp c18) (by rw [tc_isN_nI hk (by omega)]; simp))
    refine tv_aload_n dMO_tool_23 rfl rfl ?_
    refine gMO_13 rfl dMO_tool_24 ?_
    refine tv_aload_n dMO_tool_27 rfl rfl ?_
    refine gMO_75 rfl dMO_tool_28 ?_
    refine tv_iload_n dMO_tool_31 rfl rfl ?_
    refine stM_2 dMO_tool_32 (by omega) ?_
    refine tv_aload_n dMO_tool_33 rfl rfl ?_
    refine gMO_16 rfl dMO_tool_34 ?_
    refine tv_aload_n dMO_tool_37 rfl rfl ?_
    refine gMO_75 rfl dMO_tool_38 ?_
    refine tv_top (b := .inl (nI (ρ.2.2.2 1))) rfl ?_
    refine tv_iload_n dMO_tool_41 rfl rfl ?_
    refine stM_3 dMO_tool_42 (by omega) ?_
    refine tv_aload_n dMO_tool_43 rfl rfl ?_
    refine gMO_19 rfl dMO_tool_44 ?_
    refine tv_aload_n dMO_tool_47 rfl rfl ?_
    refine gMO_75 rfl dMO_tool_48 ?_
    refine tv_top (b := .inl (nI (ρ.2.2.2 1))) rfl ?_
    refine tv_iload_n dMO_tool_51 rfl rfl ?_
    refine stM_4 dMO_tool_52 (by omega) ?_
    refine tv_aload_n dMO_tool_53 rfl rfl ?_
    refine gMO_22 rfl dMO_tool_54 ?_
    refine tv_aload_n dMO_tool_57 rfl rfl ?_
    refine gMO_75 rfl dMO_tool_58 ?_
    refine tv_top (b := .inl (nI (ρ.2.2.2 1))) rfl ?_
    refine tv_iload dMO_tool_61 rfl ?_
    refine stM_5 dMO_tool_63 (by omega) ?_
    refine tv_aload_n dMO_tool_64 rfl rfl ?_
    refine gMO_25 rfl dMO_tool_65 ?_
    refine tv_aload_n dMO_tool_68 rfl rfl ?_
    refine gMO_75 rfl dMO_tool_69 ?_
    refine tv_top (b := .inl (nI (ρ.2.2.2 1))) rfl ?_
    refine tv_aload_n dMO_tool_72 rfl rfl ?_
    refine gMO_75 rfl dMO_tool_73 ?_
    refine tv_top (b := .inl (nI (ρ.2.2.2 1))) rfl ?_
    refine stM_6 dMO_tool_76 (by omega) ?_
    refine tv_aload_n dMO_tool_77 rfl rfl ?_
    refine tv_dup dMO_tool_78 ?_
    refine gMO_75 rfl dMO_tool_79 ?_
    refine tv_top (b := .inl (nI (ρ.2.2.2 1))) rfl ?_
    refine tv_iconst (v := 1) dMO_tool_82 (by decide) ?_
    refine tv_iadd dMO_tool_83 ?_
    refine tv_top (b := .inl (nI (ρ.2.2.2 1 + 1))) (congrArg Sum.inl (nI_1 _)) ?_
    refine pMO_75 rfl dMO_tool_84 ?_
    refine tv_aload_n dMO_tool_87 rfl rfl ?_
    refine gMO_75 rfl dMO_tool_88 ?_
    refine tv_iconst (v := 1) dMO_tool_91 (by decide) ?_
    refine tv_isub dMO_tool_92 ?_
    refine tv_top (b := .inl (nI (ρ.2.2.2 1))) (congrArg Sum.inl (nI_pred _)) ?_
    exact tv_iret dMO_tool_93 rfl rfl (by rw [hr, e6]; rfl) (by rw [hh, e6]; rfl)
set_option maxHeartbeats 4000000 in
set_option maxRecDepth 100000 in
theorem mm_tool (τ : tcS) (hI : tm_I τ) {k : Nat} (hk : k < 8) (r m v : Int32) : tc_M yMO_tool cMO_tool 5 (some .int) 1 [.inr (some 0), .inl (nI k), .inl r, .inl m, .inl v] (tm_h τ, some (.inl (tc_oI (tm_tool (tc_s4 τ 5 0) k r m v).1)), tm_h (tm_tool (tc_s4 τ 5 0) k r m v).2, 0, 0) := by
  refine tc_met (by decide) (Nat.le_of_ble_eq_true rfl) (Nat.le_of_eq tm_len) rfl ?_
  refine tv_aload_n dMO_tool_0 rfl rfl ?_
  refine tv_iconst (v := 0) dMO_tool_1 (by decide) ?_
  refine tv_top (b := .inl (nI 0)) rfl ?_
  refine pMO_68 rfl dMO_tool_2 ?_
  exact mp_tool (tc_s4 τ 5 0) hI hk r m v rfl rfl
set_option maxHeartbeats 4000000 in
set_option maxRecDepth 100000 in
theorem mp_tool_no (ρ : tcS) {x : Int32} (hx : tc_isN x 8 = false) (r m v : Int32) {K : tcK} (hr : K.2.1 = some (.inl (-1))) (hh : K.2.2.1 = tm_h ρ) : tc_V (cMO_tool, 5, yMO_tool.cls, some .int, 1, yMO_tool.name) K 0 0 (tm_h ρ) 5 [some (.inr (some 0)), some (.inl x), some (.inl r), some (.inl m), some (.inl v)] [] := by
  refine tv_aload_n dMO_tool_5 rfl rfl ?_
  refine gMO_75 rfl dMO_tool_6 ?_
  refine tv_bipush (v := 24) dMO_tool_9 (by decide) ?_
  refine tv_icmp_eq (tgt := 21) dMO_tool_11 (by decide) (fun c11 => ?_) (fun c11 => ?_)
  · refine tv_iconst (v := -1) dMO_tool_21 (by decide) ?_
    exact tv_iret dMO_tool_22 rfl rfl hr hh
  · refine tv_iload_n dMO_tool_14 rfl rfl ?_
    refine tv_callS1r kMO_78 (by decide) (Nat.le_of_ble_eq_true rfl) ⟨rfl, rfl⟩ (mm_isKind _ _) ⟨Nat.zero_le _, Nat.zero_le _⟩ dMO_tool_15 ?_
    refine tv_if_ne (tgt := 23) dMO_tool_18 (by decide) (fun c18 => absurd (tc_b2_n.mp c18) (by rw [hx]; simp)) (fun c18 => ?_)
    refine tv_iconst (v := -1) dMO_tool_21 (by decide) ?_
    exact tv_iret dMO_tool_22 rfl rfl hr hh
set_option maxHeartbeats 4000000 in
set_option maxRecDepth 100000 in
theorem mm_tool_no (τ : tcS) {x : Int32} (hx : tc_isN x 8 = false) (r m v : Int32) : tc_M yMO_tool cMO_tool 5 (some .int) 1 [.inr (some 0), .inl x, .inl r, .inl m, .inl v] (tm_h τ, some (.inl (-1)), tm_h (tc_s4 τ 5 0), 0, 0) := by
  refine tc_met (by decide) (Nat.le_of_ble_eq_true rfl) (Nat.le_of_eq tm_len) rfl ?_
  refine tv_aload_n dMO_tool_0 rfl rfl ?_
  refine tv_iconst (v := 0) dMO_tool_1 (by decide) ?_
  refine tv_top (b := .inl (nI 0)) rfl ?_
  refine pMO_68 rfl dMO_tool_2 ?_
  exact mp_tool_no (tc_s4 τ 5 0) hx r m v rfl rfl
set_option maxHeartbeats 4000000 in
set_option maxRecDepth 100000 in
theorem mp_needs (ρ : tcS) (hI : tm_I ρ) {t k : Nat} (ht : t < ρ.2.2.2 1) (hk : k < 8) {K : tcK} (hr : K.2.1 = some (.inl (tc_b2 (tm_needs ρ t k).1))) (hh : K.2.2.1 = tm_h (tm_needs ρ t k).2) : tc_V (cMO_needs, 3, yMO_needs.cls, some .boolean, 1, yMO_needs.name) K 0 0 (tm_h ρ) 5 [some (.inr (some 0)), some (.inl (nI t)), some (.inl (nI k))] [] := by
  obtain ⟨iP, iT, iN, iA, iR, iK, iO, iQ, iF, iB, iW⟩ := id hI
  refine tv_aload_n dMO_needs_5 rfl rfl ?_
  refine tv_iload_n dMO_needs_6 rfl rfl ?_
  refine tv_callV1r kMO_82 (by decide) (Nat.le_of_ble_eq_true rfl) ⟨rfl, rfl⟩ rfl (mm_isTool ρ _) ⟨Nat.zero_le _, Nat.zero_le _⟩ dMO_needs_7 ?_
  refine tv_if_eq (tgt := 38) dMO_needs_10 (by decide) (fun c10 => absurd (tc_b2_0.mp c10) (by rw [tc_isN_nI ht (by omega)]; simp)) (fun c10 => ?_)
  refine tv_iload_n dMO_needs_13 rfl rfl ?_
  refine tv_callS1r kMO_78 (by decide) (Nat.le_of_ble_eq_true rfl) ⟨rfl, rfl⟩ (mm_isKind _ _) ⟨Nat.zero_le _, Nat.zero_le _⟩ dMO_needs_14 ?_
  refine tv_if_eq (tgt := 38) dMO_needs_17 (by decide) (fun c17 => absurd (tc_b2_0.mp c17) (by rw [tc_isN_nI hk (by omega)]; simp)) (fun c17 => ?_)
  refine tv_aload_n dMO_needs_20 rfl rfl ?_
  refine gMO_85 rfl dMO_needs_21 ?_
  refine tv_bipush (v := 40) dMO_needs_24 (by decide) ?_
  refine tv_icmp_eq (tgt := 38) dMO_needs_26 (by decide) (fun c26 => ?_) (fun c26 => ?_)
  · have d26 : ρ.2.2.2 2 = 40 := (nI_eq (b := 40) (by omega) (by omega)).mp c26
    have e27 : tm_needs ρ t k = (false, ρ) := by unfold tm_needs; rw [if_pos (Or.inl d26)]
    refine tv_iconst (v := 0) dMO_needs_38 (by decide) ?_
    exact tv_iret dMO_needs_39 rfl rfl (by rw [hr, e27]; rfl) (by rw [hh, e27])
  · have d26 : ¬ ρ.2.2.2 2 = 40 := fun q => c26 (by rw [q]; rfl)
    refine tv_aload_n dMO_needs_29 rfl rfl ?_
    refine tv_iload_n dMO_needs_30 rfl rfl ?_
    refine tv_iload_n dMO_needs_31 rfl rfl ?_
    refine tv_callV2r kMO_88 (by decide) (Nat.le_of_ble_eq_true rfl) ⟨rfl, rfl⟩ rfl (mm_wants ρ hI (by omega) hk) ⟨Nat.zero_le _, Nat.zero_le _⟩ dMO_needs_32 ?_
    refine tv_if_eq (tgt := 40) dMO_needs_35 (by decide) (fun c35 => ?_) (fun c35 => ?_)
    · have e27 := show tm_needs ρ t k = (true, _) by unfold tm_needs; rw [if_neg (fun q => q.elim d26 (fun q => by rw [tc_b2_0.mp c35] at q; cases q))]
      refine tv_aload_n dMO_needs_40 rfl rfl ?_
      refine gMO_28 rfl dMO_needs_41 ?_
      refine tv_aload_n dMO_needs_44 rfl rfl ?_
      refine gMO_85 rfl dMO_needs_45 ?_
      refine tv_iload_n dMO_needs_48 rfl rfl ?_
      refine stM_7 dMO_needs_49 (by omega) ?_
      refine tv_aload_n dMO_needs_50 rfl rfl ?_
      refine gMO_31 rfl dMO_needs_51 ?_
      refine tv_aload_n dMO_needs_54 rfl rfl ?_
      refine gMO_85 rfl dMO_needs_55 ?_
      refine tv_top (b := .inl (nI (ρ.2.2.2 2))) rfl ?_
      refine tv_iload_n dMO_needs_58 rfl rfl ?_
      refine stM_8 dMO_needs_59 (by omega) ?_
      refine tv_aload_n dMO_needs_60 rfl rfl ?_
      refine tv_dup dMO_needs_61 ?_
      refine gMO_85 rfl dMO_needs_62 ?_
      refine tv_top (b := .inl (nI (ρ.2.2.2 2))) rfl ?_
      refine tv_iconst (v := 1) dMO_needs_65 (by decide) ?_
      refine tv_iadd dMO_needs_66 ?_
      refine tv_top (b := .inl (nI (ρ.2.2.2 2 + 1))) (congrArg Sum.inl (nI_1 _)) ?_
      refine pMO_85 rfl dMO_needs_67 ?_
      refine tv_iconst (v := 1) dMO_needs_70 (by decide) ?_
      exact tv_iret dMO_needs_71 rfl rfl (by rw [hr, e27]; rfl) (by rw [hh, e27]; rfl)
    · have e27 : tm_needs ρ t k = (false, ρ) := by unfold tm_needs; rw [if_pos (Or.inr (tc_b2_n.mp c35))]
      refine tv_iconst (v := 0) dMO_needs_38 (by decide) ?_
      exact tv_iret dMO_needs_39 rfl rfl (by rw [hr, e27]; rfl) (by rw [hh, e27])
set_option maxHeartbeats 4000000 in
set_option maxRecDepth 100000 in
theorem mm_needs (τ : tcS) (hI : tm_I τ) {t k : Nat} (ht : t < (tc_s4 τ 5 0).2.2.2 1) (hk : k < 8) : tc_M yMO_needs cMO_needs 3 (some .boolean) 1 [.inr (some 0), .inl (nI t), .inl (nI k)] (tm_h τ, some (.inl (tc_b2 (tm_needs (tc_s4 τ 5 0) t k).1)), tm_h (tm_needs (tc_s4 τ 5 0) t k).2, 0, 0) := by
  refine tc_met (by decide) (Nat.le_of_ble_eq_true rfl) (Nat.le_of_eq tm_len) rfl ?_
  refine tv_aload_n dMO_needs_0 rfl rfl ?_
  refine tv_iconst (v := 0) dMO_needs_1 (by decide) ?_
  refine tv_top (b := .inl (nI 0)) rfl ?_
  refine pMO_68 rfl dMO_needs_2 ?_
  exact mp_needs (tc_s4 τ 5 0) hI ht hk rfl rfl
set_option maxHeartbeats 4000000 in
set_option maxRecDepth 100000 in
theorem mp_needs_no (ρ : tcS) {x y : Int32} (hx : tc_isN x (ρ.2.2.2 1) = false ∨ tc_isN y 8 = false) {K : tcK} (hr : K.2.1 = some (.inl 0)) (hh : K.2.2.1 = tm_h ρ) : tc_V (cMO_needs, 3, yMO_needs.cls, some .boolean, 1, yMO_needs.name) K 0 0 (tm_h ρ) 5 [some (.inr (some 0)), some (.inl x), some (.inl y)] [] := by
  refine tv_aload_n dMO_needs_5 rfl rfl ?_
  refine tv_iload_n dMO_needs_6 rfl rfl ?_
  refine tv_callV1r kMO_82 (by decide) (Nat.le_of_ble_eq_true rfl) ⟨rfl, rfl⟩ rfl (mm_isTool ρ _) ⟨Nat.zero_le _, Nat.zero_le _⟩ dMO_needs_7 ?_
  refine tv_if_eq (tgt := 38) dMO_needs_10 (by decide) (fun c10 => ?_) (fun c10 => ?_)
  · refine tv_iconst (v := 0) dMO_needs_38 (by decide) ?_
    exact tv_iret dMO_needs_39 rfl rfl hr hh
  · have hy : tc_isN y 8 = false := by
      rcases hx with q | q
      · exact absurd (tc_b2_0.mpr q) c10
      · exact q
    refine tv_iload_n dMO_needs_13 rfl rfl ?_
    refine tv_callS1r kMO_78 (by decide) (Nat.le_of_ble_eq_true rfl) ⟨rfl, rfl⟩ (mm_isKind _ _) ⟨Nat.zero_le _, Nat.zero_le _⟩ dMO_needs_14 ?_
    refine tv_if_eq (tgt := 38) dMO_needs_17 (by decide) (fun c17 => ?_) (fun c17 => absurd (tc_b2_0.mpr hy) c17)
    refine tv_iconst (v := 0) dMO_needs_38 (by decide) ?_
    exact tv_iret dMO_needs_39 rfl rfl hr hh
set_option maxHeartbeats 4000000 in
set_option maxRecDepth 100000 in
theorem mm_needs_no (τ : tcS) {x y : Int32} (hx : tc_isN x ((tc_s4 τ 5 0).2.2.2 1) = false ∨ tc_isN y 8 = false) : tc_M yMO_needs cMO_needs 3 (some .boolean) 1 [.inr (some 0), .inl x, .inl y] (tm_h τ, some (.inl 0), tm_h (tc_s4 τ 5 0), 0, 0) := by
  refine tc_met (by decide) (Nat.le_of_ble_eq_true rfl) (Nat.le_of_eq tm_len) rfl ?_
  refine tv_aload_n dMO_needs_0 rfl rfl ?_
  refine tv_iconst (v := 0) dMO_needs_1 (by decide) ?_
  refine tv_top (b := .inl (nI 0)) rfl ?_
  refine pMO_68 rfl dMO_needs_2 ?_
  exact mp_needs_no (tc_s4 τ 5 0) hx rfl rfl
def tm_put (τ : tcS) (k : Nat) (v b : Int32) : tcS :=
  tc_s1 (tc_s1 (if tm_place τ k = none then tc_s4 (tc_s2 τ 2 (va_up (τ.2.1 2) (τ.2.2.2 3) k)) 3 (τ.2.2.2 3 + 1) else τ) 10 (upd (τ.1 10) k v)) 11 (upd (τ.1 11) k b)
theorem tm_pf_lt {τ : tcS} {k : Nat} : ∀ {n i j : Nat} {g : Option Nat}, tm_pf τ k n i g = some j → (g = some j ∨ (i ≤ j ∧ j < i + n ∧ τ.2.1 2 j = k))
  | 0, _, _, _, h => Or.inl h
  | n + 1, i, j, g, h => by
    unfold tm_pf at h
    rcases tm_pf_lt h with q | q
    · split at q
      · rename_i e
        cases q
        exact Or.inr ⟨Nat.le_refl _, by omega, e⟩
      · exact Or.inl q
    · exact Or.inr ⟨by omega, by omega, q.2.2⟩
theorem tm_place_lt {τ : tcS} {k j : Nat} (h : tm_place τ k = some j) : j < τ.2.2.2 3 ∧ τ.2.1 2 j = k := by
  rcases tm_pf_lt h with q | q
  · cases q
  · exact ⟨by omega, q.2.2⟩
set_option maxHeartbeats 4000000 in
set_option maxRecDepth 100000 in
theorem mp_ask (ρ : tcS) (hI : tm_I ρ) {k : Nat} (hk : k < 8) (v b : Int32) (hb : vp_nar .boolean b = b) (h8 : tm_place ρ k = none → ρ.2.2.2 3 < 8) {K : tcK} (hr : K.2.1 = some (.inl 1)) (hh : K.2.2.1 = tm_h (tm_put ρ k v b)) : tc_V (cMO_ask, 4, yMO_ask.cls, some .boolean, 1, yMO_ask.name) K 0 0 (tm_h ρ) 5 [some (.inr (some 0)), some (.inl (nI k)), some (.inl v), some (.inl b)] [] := by
  obtain ⟨iP, iT, iN, iA, iR, iK, iO, iQ, iF, iB, iW⟩ := id hI
  refine tv_iload_n dMO_ask_5 rfl rfl ?_
  refine tv_callS1r kMO_78 (by decide) (Nat.le_of_ble_eq_true rfl) ⟨rfl, rfl⟩ (mm_isKind _ _) ⟨Nat.zero_le _, Nat.zero_le _⟩ dMO_ask_6 ?_
  refine tv_if_ne (tgt := 14) dMO_ask_9 (by decide) (fun c9 => ?_) (fun c9 => absurd (tc_b2_0.mp c9) (by rw [tc_isN_nI hk (by omega)]; simp))
  refine tv_aload_n dMO_ask_14 rfl rfl ?_
  refine tv_iload_n dMO_ask_15 rfl rfl ?_
  refine tv_callV1r kMO_95 (by decide) (Nat.le_of_ble_eq_true rfl) ⟨rfl, rfl⟩ rfl (mm_place ρ hI hk) ⟨Nat.zero_le _, Nat.zero_le _⟩ dMO_ask_16 ?_
  refine tv_iconst (v := -1) dMO_ask_19 (by decide) ?_
  refine tv_icmp_ne (tgt := 43) dMO_ask_20 (by decide) (fun c20 => ?_) (fun c20 => ?_)
  · have hp : ¬ tm_place ρ k = none := fun q => c20 ((tc_oI_m1 (fun i q => by have := tm_place_lt q; omega)).mpr q)
    have e2 : tm_h (tm_put ρ k v b) = tm_h (tc_s1 (tc_s1 ρ 10 (upd (ρ.1 10) k v)) 11 (upd (ρ.1 11) k b)) := by unfold tm_put; rw [if_neg hp]
    refine tv_aload_n dMO_ask_43 rfl rfl ?_
    refine gMO_37 rfl dMO_ask_44 ?_
    refine tv_iload_n dMO_ask_47 rfl rfl ?_
    refine tv_iload_n dMO_ask_48 rfl rfl ?_
    refine stM_10 dMO_ask_49 hk ?_
    refine tv_aload_n dMO_ask_50 rfl rfl ?_
    refine gMO_46 rfl dMO_ask_51 ?_
    refine tv_iload_n dMO_ask_54 rfl rfl ?_
    refine tv_iload_n dMO_ask_55 rfl rfl ?_
    refine stM_13 dMO_ask_56 hk hb ?_
    refine tv_iconst (v := 1) dMO_ask_57 (by decide) ?_
    exact tv_iret dMO_ask_58 rfl rfl hr (by rw [hh, e2]; rfl)
  · have hp := (tc_oI_m1 (fun i q => by have := tm_place_lt q; omega)).mp c20
    have e2 : tm_h (tm_put ρ k v b) = tm_h (tc_s1 (tc_s1 (tc_s4 (tc_s2 ρ 2 (va_up (ρ.2.1 2) (ρ.2.2.2 3) k)) 3 (ρ.2.2.2 3 + 1)) 10 (upd (ρ.1 10) k v)) 11 (upd (ρ.1 11) k b)) := by unfold tm_put; rw [if_pos hp]
    refine tv_aload_n dMO_ask_23 rfl rfl ?_
    refine gMO_34 rfl dMO_ask_24 ?_
    refine tv_aload_n dMO_ask_27 rfl rfl ?_
    refine gMO_92 rfl dMO_ask_28 ?_
    refine tv_iload_n dMO_ask_31 rfl rfl ?_
    refine stM_9 dMO_ask_32 (h8 hp) ?_
    refine tv_aload_n dMO_ask_33 rfl rfl ?_
    refine tv_dup dMO_ask_34 ?_
    refine gMO_92 rfl dMO_ask_35 ?_
    refine tv_top (b := .inl (nI (ρ.2.2.2 3))) rfl ?_
    refine tv_iconst (v := 1) dMO_ask_38 (by decide) ?_
    refine tv_iadd dMO_ask_39 ?_
    refine tv_top (b := .inl (nI (ρ.2.2.2 3 + 1))) (congrArg Sum.inl (nI_1 _)) ?_
    refine pMO_92 rfl dMO_ask_40 ?_
    refine tv_aload_n dMO_ask_43 rfl rfl ?_
    refine gMO_37 rfl dMO_ask_44 ?_
    refine tv_iload_n dMO_ask_47 rfl rfl ?_
    refine tv_iload_n dMO_ask_48 rfl rfl ?_
    refine stM_10 dMO_ask_49 hk ?_
    refine tv_aload_n dMO_ask_50 rfl rfl ?_
    refine gMO_46 rfl dMO_ask_51 ?_
    refine tv_iload_n dMO_ask_54 rfl rfl ?_
    refine tv_iload_n dMO_ask_55 rfl rfl ?_
    refine stM_13 dMO_ask_56 hk hb ?_
    refine tv_iconst (v := 1) dMO_ask_57 (by decide) ?_
    exact tv_iret dMO_ask_58 rfl rfl hr (by rw [hh, e2]; rfl)
set_option maxHeartbeats 4000000 in
set_option maxRecDepth 100000 in
theorem mm_ask (τ : tcS) (hI : tm_I τ) {k : Nat} (hk : k < 8) (v b : Int32) (hb : vp_nar .boolean b = b) (h8 : tm_place (tc_s4 τ 5 0) k = none → (tc_s4 τ 5 0).2.2.2 3 < 8) : tc_M yMO_ask cMO_ask 4 (some .boolean) 1 [.inr (some 0), .inl (nI k), .inl v, .inl b] (tm_h τ, some (.inl 1), tm_h (tm_put (tc_s4 τ 5 0) k v b), 0, 0) := by
  refine tc_met (by decide) (Nat.le_of_ble_eq_true rfl) (Nat.le_of_eq tm_len) rfl ?_
  refine tv_aload_n dMO_ask_0 rfl rfl ?_
  refine tv_iconst (v := 0) dMO_ask_1 (by decide) ?_
  refine tv_top (b := .inl (nI 0)) rfl ?_
  refine pMO_68 rfl dMO_ask_2 ?_
  exact mp_ask (tc_s4 τ 5 0) hI hk v b hb h8 rfl rfl
set_option maxHeartbeats 4000000 in
set_option maxRecDepth 100000 in
theorem mp_ask_no (ρ : tcS) {x : Int32} (hx : tc_isN x 8 = false) (v b : Int32) {K : tcK} (hr : K.2.1 = some (.inl 0)) (hh : K.2.2.1 = tm_h ρ) : tc_V (cMO_ask, 4, yMO_ask.cls, some .boolean, 1, yMO_ask.name) K 0 0 (tm_h ρ) 5 [some (.inr (some 0)), some (.inl x), some (.inl v), some (.inl b)] [] := by
  refine tv_iload_n dMO_ask_5 rfl rfl ?_
  refine tv_callS1r kMO_78 (by decide) (Nat.le_of_ble_eq_true rfl) ⟨rfl, rfl⟩ (mm_isKind _ _) ⟨Nat.zero_le _, Nat.zero_le _⟩ dMO_ask_6 ?_
  refine tv_if_ne (tgt := 14) dMO_ask_9 (by decide) (fun c9 => absurd (tc_b2_n.mp c9) (by rw [hx]; simp)) (fun c9 => ?_)
  refine tv_iconst (v := 0) dMO_ask_12 (by decide) ?_
  exact tv_iret dMO_ask_13 rfl rfl hr hh
set_option maxHeartbeats 4000000 in
set_option maxRecDepth 100000 in
theorem mm_ask_no (τ : tcS) {x : Int32} (hx : tc_isN x 8 = false) (v b : Int32) : tc_M yMO_ask cMO_ask 4 (some .boolean) 1 [.inr (some 0), .inl x, .inl v, .inl b] (tm_h τ, some (.inl 0), tm_h (tc_s4 τ 5 0), 0, 0) := by
  refine tc_met (by decide) (Nat.le_of_ble_eq_true rfl) (Nat.le_of_eq tm_len) rfl ?_
  refine tv_aload_n dMO_ask_0 rfl rfl ?_
  refine tv_iconst (v := 0) dMO_ask_1 (by decide) ?_
  refine tv_top (b := .inl (nI 0)) rfl ?_
  refine pMO_68 rfl dMO_ask_2 ?_
  exact mp_ask_no (tc_s4 τ 5 0) hx v b rfl rfl
end
section
def tm_rmB (j : Nat) (ρ : tcS) : tcS := tc_s2 ρ 2 (va_up (ρ.2.1 2) j (ρ.2.1 2 (j + 1)))
def tm_sub (ρ : tcS) : tcS := tc_s4 ρ 3 (ρ.2.2.2 3 - 1)
def tm_rem (τ : tcS) (k : Nat) : Bool × tcS := match tm_place τ k with
  | none => (false, τ)
  | some i => (true, tm_sub (tc_up tm_rmB (τ.2.2.2 3 - 1 - i) i τ))
set_option maxHeartbeats 4000000 in
set_option maxRecDepth 100000 in
theorem ml_drop_31 {x1 x2 : Option tcV} {K : tcK} : ∀ (n : Nat) (j : Nat) (ρ : tcS), j + n + 1 = ρ.2.2.2 3 → ρ.2.2.2 3 ≤ 8 → K.2.1 = some (.inl 1) → K.2.2.1 = tm_h (tm_sub (tc_up tm_rmB n j ρ)) → tc_V (cMO_drop, 4, yMO_drop.cls, some .boolean, 1, yMO_drop.name) K 0 0 (tm_h ρ) 31 [some (.inr (some 0)), x1, x2, some (.inl (nI j))] [] := by
  intro n
  induction n with
  | zero =>
    intro j ρ hj h8 hr hh
    refine tv_iload_n dMO_drop_31 rfl rfl ?_
    refine tv_iconst (v := 1) dMO_drop_32 (by decide) ?_
    refine tv_iadd dMO_drop_33 ?_
    refine tv_top (b := .inl (nI (j + 1))) (congrArg Sum.inl (nI_1 j)) ?_
    refine tv_aload_n dMO_drop_34 rfl rfl ?_
    refine gMO_92 rfl dMO_drop_35 ?_
    refine tv_icmp_ge (tgt := 61) dMO_drop_38 (by decide) (fun c38 => ?_) (fun c38 => absurd (nI_le (by omega) (by omega)) c38)
    refine tv_aload_n dMO_drop_61 rfl rfl ?_
    refine tv_dup dMO_drop_62 ?_
    refine gMO_92 rfl dMO_drop_63 ?_
    refine tv_iconst (v := 1) dMO_drop_66 (by decide) ?_
    refine tv_isub dMO_drop_67 ?_
    refine tv_top (b := .inl (nI (ρ.2.2.2 3 - 1))) (congrArg Sum.inl (pk_sub (b := 1) (by omega))) ?_
    refine pMO_92 rfl dMO_drop_68 ?_
    refine tv_iconst (v := 1) dMO_drop_71 (by decide) ?_
    exact tv_iret dMO_drop_72 rfl rfl hr hh
  | succ n ih =>
    intro j ρ hj h8 hr hh
    refine tv_iload_n dMO_drop_31 rfl rfl ?_
    refine tv_iconst (v := 1) dMO_drop_32 (by decide) ?_
    refine tv_iadd dMO_drop_33 ?_
    refine tv_top (b := .inl (nI (j + 1))) (congrArg Sum.inl (nI_1 j)) ?_
    refine tv_aload_n dMO_drop_34 rfl rfl ?_
    refine gMO_92 rfl dMO_drop_35 ?_
    refine tv_icmp_ge (tgt := 61) dMO_drop_38 (by decide) (fun c38 => absurd c38 (nI_ge (by omega) (by omega))) (fun c38 => ?_)
    refine tv_aload_n dMO_drop_41 rfl rfl ?_
    refine gMO_34 rfl dMO_drop_42 ?_
    refine tv_iload_n dMO_drop_45 rfl rfl ?_
    refine tv_aload_n dMO_drop_46 rfl rfl ?_
    refine gMO_34 rfl dMO_drop_47 ?_
    refine tv_iload_n dMO_drop_50 rfl rfl ?_
    refine tv_iconst (v := 1) dMO_drop_51 (by decide) ?_
    refine tv_iadd dMO_drop_52 ?_
    refine tv_top (b := .inl (nI (j + 1))) (congrArg Sum.inl (nI_1 j)) ?_
    refine ldM_9 dMO_drop_53 (by omega) ?_
    refine stM_9 dMO_drop_54 (by omega) ?_
    refine tv_iinc_3 dMO_drop_55 (by decide) (nI_1 j) ?_
    refine tv_goto (tgt := 31) dMO_drop_58 (by decide) ?_
    exact ih (j + 1) (tm_rmB j ρ) (by show j + 1 + n + 1 = ρ.2.2.2 3; omega) h8 hr hh
set_option maxHeartbeats 4000000 in
set_option maxRecDepth 100000 in
theorem mp_drop (ρ : tcS) (hI : tm_I ρ) {k : Nat} (hk : k < 8) {K : tcK} (hr : K.2.1 = some (.inl (tc_b2 (tm_rem ρ k).1))) (hh : K.2.2.1 = tm_h (tm_rem ρ k).2) : tc_V (cMO_drop, 4, yMO_drop.cls, some .boolean, 1, yMO_drop.name) K 0 0 (tm_h ρ) 5 [some (.inr (some 0)), some (.inl (nI k)), none, none] [] := by
  obtain ⟨iP, iT, iN, iA, iR, iK, iO, iQ, iF, iB, iW⟩ := id hI
  have hc := mm_place ρ hI hk
  cases hf : tm_place ρ k with
  | none =>
    rw [hf] at hc
    have e : tm_rem ρ k = (false, ρ) := by unfold tm_rem; rw [hf]
    refine tv_iload_n dMO_drop_5 rfl rfl ?_
    refine tv_callS1r kMO_78 (by decide) (Nat.le_of_ble_eq_true rfl) ⟨rfl, rfl⟩ (mm_isKind _ _) ⟨Nat.zero_le _, Nat.zero_le _⟩ dMO_drop_6 ?_
    refine tv_if_eq (tgt := 20) dMO_drop_9 (by decide) (fun c9 => absurd (tc_b2_0.mp c9) (by rw [tc_isN_nI hk (by omega)]; simp)) (fun c9 => ?_)
    refine tv_aload_n dMO_drop_12 rfl rfl ?_
    refine tv_iload_n dMO_drop_13 rfl rfl ?_
    refine tv_callV1r kMO_95 (by decide) (Nat.le_of_ble_eq_true rfl) ⟨rfl, rfl⟩ rfl hc ⟨Nat.zero_le _, Nat.zero_le _⟩ dMO_drop_14 ?_
    refine tv_goto (tgt := 21) dMO_drop_17 (by decide) ?_
    refine tv_istN_2 dMO_drop_21 (by decide) ?_
    refine tv_iload_n dMO_drop_22 rfl rfl ?_
    refine tv_iconst (v := -1) dMO_drop_23 (by decide) ?_
    refine tv_icmp_ne (tgt := 29) dMO_drop_24 (by decide) (fun c24 => absurd rfl c24) (fun c24 => ?_)
    refine tv_iconst (v := 0) dMO_drop_27 (by decide) ?_
    exact tv_iret dMO_drop_28 rfl rfl (by rw [hr, e]; rfl) (by rw [hh, e])
  | some i =>
    rw [hf] at hc
    have hb := tm_place_lt hf
    have e : tm_rem ρ k = (true, tm_sub (tc_up tm_rmB (ρ.2.2.2 3 - 1 - i) i ρ)) := by unfold tm_rem; rw [hf]
    refine tv_iload_n dMO_drop_5 rfl rfl ?_
    refine tv_callS1r kMO_78 (by decide) (Nat.le_of_ble_eq_true rfl) ⟨rfl, rfl⟩ (mm_isKind _ _) ⟨Nat.zero_le _, Nat.zero_le _⟩ dMO_drop_6 ?_
    refine tv_if_eq (tgt := 20) dMO_drop_9 (by decide) (fun c9 => absurd (tc_b2_0.mp c9) (by rw [tc_isN_nI hk (by omega)]; simp)) (fun c9 => ?_)
    refine tv_aload_n dMO_drop_12 rfl rfl ?_
    refine tv_iload_n dMO_drop_13 rfl rfl ?_
    refine tv_callV1r kMO_95 (by decide) (Nat.le_of_ble_eq_true rfl) ⟨rfl, rfl⟩ rfl hc ⟨Nat.zero_le _, Nat.zero_le _⟩ dMO_drop_14 ?_
    refine tv_top (b := .inl (nI i)) rfl ?_
    refine tv_goto (tgt := 21) dMO_drop_17 (by decide) ?_
    refine tv_istN_2 dMO_drop_21 (by decide) ?_
    refine tv_iload_n dMO_drop_22 rfl rfl ?_
    refine tv_iconst (v := -1) dMO_drop_23 (by decide) ?_
    refine tv_icmp_ne (tgt := 29) dMO_drop_24 (by decide) (fun c24 => ?_) (fun c24 => absurd ((tc_oI_m1 (o := some i) (fun a q => by cases q; omega)).mp c24) (by simp))
    refine tv_iload_n dMO_drop_29 rfl rfl ?_
    refine tv_istN_3 dMO_drop_30 (by decide) ?_
    exact ml_drop_31 (ρ.2.2.2 3 - 1 - i) i ρ (by omega) iA (by rw [hr, e]; rfl) (by rw [hh, e])
set_option maxHeartbeats 4000000 in
set_option maxRecDepth 100000 in
theorem mm_drop (τ : tcS) (hI : tm_I τ) {k : Nat} (hk : k < 8) : tc_M yMO_drop cMO_drop 4 (some .boolean) 1 [.inr (some 0), .inl (nI k)] (tm_h τ, some (.inl (tc_b2 (tm_rem (tc_s4 τ 5 0) k).1)), tm_h (tm_rem (tc_s4 τ 5 0) k).2, 0, 0) := by
  refine tc_met (by decide) (Nat.le_of_ble_eq_true rfl) (Nat.le_of_eq tm_len) rfl ?_
  refine tv_aload_n dMO_drop_0 rfl rfl ?_
  refine tv_iconst (v := 0) dMO_drop_1 (by decide) ?_
  refine tv_top (b := .inl (nI 0)) rfl ?_
  refine pMO_68 rfl dMO_drop_2 ?_
  exact mp_drop (tc_s4 τ 5 0) hI hk rfl rfl
set_option maxHeartbeats 4000000 in
set_option maxRecDepth 100000 in
theorem mp_drop_no (ρ : tcS) {x : Int32} (hx : tc_isN x 8 = false) {K : tcK} (hr : K.2.1 = some (.inl 0)) (hh : K.2.2.1 = tm_h ρ) : tc_V (cMO_drop, 4, yMO_drop.cls, some .boolean, 1, yMO_drop.name) K 0 0 (tm_h ρ) 5 [some (.inr (some 0)), some (.inl x), none, none] [] := by
  refine tv_iload_n dMO_drop_5 rfl rfl ?_
  refine tv_callS1r kMO_78 (by decide) (Nat.le_of_ble_eq_true rfl) ⟨rfl, rfl⟩ (mm_isKind _ _) ⟨Nat.zero_le _, Nat.zero_le _⟩ dMO_drop_6 ?_
  refine tv_if_eq (tgt := 20) dMO_drop_9 (by decide) (fun c9 => ?_) (fun c9 => absurd (tc_b2_0.mpr hx) c9)
  refine tv_iconst (v := -1) dMO_drop_20 (by decide) ?_
  refine tv_istN_2 dMO_drop_21 (by decide) ?_
  refine tv_iload_n dMO_drop_22 rfl rfl ?_
  refine tv_iconst (v := -1) dMO_drop_23 (by decide) ?_
  refine tv_icmp_ne (tgt := 29) dMO_drop_24 (by decide) (fun c24 => absurd rfl c24) (fun c24 => ?_)
  refine tv_iconst (v := 0) dMO_drop_27 (by decide) ?_
  exact tv_iret dMO_drop_28 rfl rfl hr hh
set_option maxHeartbeats 4000000 in
set_option maxRecDepth 100000 in
theorem mm_drop_no (τ : tcS) {x : Int32} (hx : tc_isN x 8 = false) : tc_M yMO_drop cMO_drop 4 (some .boolean) 1 [.inr (some 0), .inl x] (tm_h τ, some (.inl 0), tm_h (tc_s4 τ 5 0), 0, 0) := by
  refine tc_met (by decide) (Nat.le_of_ble_eq_true rfl) (Nat.le_of_eq tm_len) rfl ?_
  refine tv_aload_n dMO_drop_0 rfl rfl ?_
  refine tv_iconst (v := 0) dMO_drop_1 (by decide) ?_
  refine tv_top (b := .inl (nI 0)) rfl ?_
  refine pMO_68 rfl dMO_drop_2 ?_
  exact mp_drop_no (tc_s4 τ 5 0) hx rfl rfl
set_option maxHeartbeats 4000000 in
set_option maxRecDepth 100000 in
theorem mp_force (ρ : tcS) {k : Nat} (hk : k < 8) {K : tcK} (hr : K.2.1 = some (.inl 1)) (hh : K.2.2.1 = tm_h (tc_s3 ρ 0 (va_up (ρ.2.2.1 0) k none))) : tc_V (cMO_force, 3, yMO_force.cls, some .boolean, 1, yMO_force.name) K 0 0 (tm_h ρ) 5 [some (.inr (some 0)), some (.inl (-1)), some (.inl (nI k))] [] := by
  refine tv_iload_n dMO_force_5 rfl rfl ?_
  refine tv_iconst (v := -1) dMO_force_6 (by decide) ?_
  refine tv_icmp_ne (tgt := 20) dMO_force_7 (by decide) (fun c7 => absurd rfl c7) (fun c7 => ?_)
  refine tv_iload_n dMO_force_10 rfl rfl ?_
  refine tv_callS1r kMO_78 (by decide) (Nat.le_of_ble_eq_true rfl) ⟨rfl, rfl⟩ (mm_isKind _ _) ⟨Nat.zero_le _, Nat.zero_le _⟩ dMO_force_11 ?_
  refine tv_if_ne (tgt := 30) dMO_force_14 (by decide) (fun c14 => ?_) (fun c14 => absurd (tc_b2_0.mp c14) (by rw [tc_isN_nI hk (by omega)]; simp))
  refine tv_aload_n dMO_force_30 rfl rfl ?_
  refine gMO_40 rfl dMO_force_31 ?_
  refine tv_iload_n dMO_force_34 rfl rfl ?_
  refine tv_iconst (v := -1) dMO_force_35 (by decide) ?_
  refine tv_icmp_ne (tgt := 43) dMO_force_36 (by decide) (fun c36 => absurd rfl c36) (fun c36 => ?_)
  refine tv_iload_n dMO_force_39 rfl rfl ?_
  refine tv_goto (tgt := 49) dMO_force_40 (by decide) ?_
  refine tv_iload_n dMO_force_49 rfl rfl ?_
  refine stM_11 none dMO_force_50 hk ?_
  refine tv_iconst (v := 1) dMO_force_51 (by decide) ?_
  exact tv_iret dMO_force_52 rfl rfl hr hh
set_option maxHeartbeats 4000000 in
set_option maxRecDepth 100000 in
theorem mm_force (τ : tcS) {k : Nat} (hk : k < 8) : tc_M yMO_force cMO_force 3 (some .boolean) 1 [.inr (some 0), .inl (-1), .inl (nI k)] (tm_h τ, some (.inl 1), tm_h (tc_s3 (tc_s4 τ 5 0) 0 (va_up ((tc_s4 τ 5 0).2.2.1 0) k none)), 0, 0) := by
  refine tc_met (by decide) (Nat.le_of_ble_eq_true rfl) (Nat.le_of_eq tm_len) rfl ?_
  refine tv_aload_n dMO_force_0 rfl rfl ?_
  refine tv_iconst (v := 0) dMO_force_1 (by decide) ?_
  refine tv_top (b := .inl (nI 0)) rfl ?_
  refine pMO_68 rfl dMO_force_2 ?_
  exact mp_force (tc_s4 τ 5 0) hk rfl rfl
set_option maxHeartbeats 4000000 in
set_option maxRecDepth 100000 in
theorem mp_force_t (ρ : tcS) (hI : tm_I ρ) {t : Nat} (ht : t < ρ.2.2.2 1) (y : Int32) {K : tcK} (hr : K.2.1 = some (.inl 1)) (hh : K.2.2.1 = tm_h (tc_s3 ρ 0 (va_up (ρ.2.2.1 0) (ρ.2.1 0 t) (some t)))) : tc_V (cMO_force, 3, yMO_force.cls, some .boolean, 1, yMO_force.name) K 0 0 (tm_h ρ) 5 [some (.inr (some 0)), some (.inl (nI t)), some (.inl y)] [] := by
  obtain ⟨iP, iT, iN, iA, iR, iK, iO, iQ, iF, iB, iW⟩ := id hI
  refine tv_iload_n dMO_force_5 rfl rfl ?_
  refine tv_iconst (v := -1) dMO_force_6 (by decide) ?_
  refine tv_icmp_ne (tgt := 20) dMO_force_7 (by decide) (fun c7 => ?_) (fun c7 => absurd ((tc_oI_m1 (o := some t) (fun a q => by cases q; omega)).mp c7) (by simp))
  refine tv_aload_n dMO_force_20 rfl rfl ?_
  refine tv_iload_n dMO_force_21 rfl rfl ?_
  refine tv_callV1r kMO_82 (by decide) (Nat.le_of_ble_eq_true rfl) ⟨rfl, rfl⟩ rfl (mm_isTool ρ _) ⟨Nat.zero_le _, Nat.zero_le _⟩ dMO_force_22 ?_
  refine tv_if_ne (tgt := 30) dMO_force_25 (by decide) (fun c25 => ?_) (fun c25 => absurd (tc_b2_0.mp c25) (by rw [tc_isN_nI ht (by omega)]; simp))
  refine tv_aload_n dMO_force_30 rfl rfl ?_
  refine gMO_40 rfl dMO_force_31 ?_
  refine tv_iload_n dMO_force_34 rfl rfl ?_
  refine tv_iconst (v := -1) dMO_force_35 (by decide) ?_
  refine tv_icmp_ne (tgt := 43) dMO_force_36 (by decide) (fun c36 => ?_) (fun c36 => absurd ((tc_oI_m1 (o := some t) (fun a q => by cases q; omega)).mp c36) (by simp))
  refine tv_aload_n dMO_force_43 rfl rfl ?_
  refine gMO_13 rfl dMO_force_44 ?_
  refine tv_iload_n dMO_force_47 rfl rfl ?_
  refine ldM_2 dMO_force_48 (by omega) ?_
  refine tv_iload_n dMO_force_49 rfl rfl ?_
  refine stM_11 (some t) dMO_force_50 (iK t ht) ?_
  refine tv_iconst (v := 1) dMO_force_51 (by decide) ?_
  exact tv_iret dMO_force_52 rfl rfl hr hh
set_option maxHeartbeats 4000000 in
set_option maxRecDepth 100000 in
theorem mm_force_t (τ : tcS) (hI : tm_I τ) {t : Nat} (ht : t < (tc_s4 τ 5 0).2.2.2 1) (y : Int32) : tc_M yMO_force cMO_force 3 (some .boolean) 1 [.inr (some 0), .inl (nI t), .inl y] (tm_h τ, some (.inl 1), tm_h (tc_s3 (tc_s4 τ 5 0) 0 (va_up ((tc_s4 τ 5 0).2.2.1 0) ((tc_s4 τ 5 0).2.1 0 t) (some t))), 0, 0) := by
  refine tc_met (by decide) (Nat.le_of_ble_eq_true rfl) (Nat.le_of_eq tm_len) rfl ?_
  refine tv_aload_n dMO_force_0 rfl rfl ?_
  refine tv_iconst (v := 0) dMO_force_1 (by decide) ?_
  refine tv_top (b := .inl (nI 0)) rfl ?_
  refine pMO_68 rfl dMO_force_2 ?_
  exact mp_force_t (tc_s4 τ 5 0) hI ht y rfl rfl
set_option maxHeartbeats 4000000 in
set_option maxRecDepth 100000 in
theorem mp_force_no (ρ : tcS) {x y : Int32} (hx : tc_isN x (ρ.2.2.2 1) = false) (hy : x = -1 → tc_isN y 8 = false) {K : tcK} (hr : K.2.1 = some (.inl 0)) (hh : K.2.2.1 = tm_h ρ) : tc_V (cMO_force, 3, yMO_force.cls, some .boolean, 1, yMO_force.name) K 0 0 (tm_h ρ) 5 [some (.inr (some 0)), some (.inl x), some (.inl y)] [] := by
  refine tv_iload_n dMO_force_5 rfl rfl ?_
  refine tv_iconst (v := -1) dMO_force_6 (by decide) ?_
  refine tv_icmp_ne (tgt := 20) dMO_force_7 (by decide) (fun c7 => ?_) (fun c7 => ?_)
  · refine tv_aload_n dMO_force_20 rfl rfl ?_
    refine tv_iload_n dMO_force_21 rfl rfl ?_
    refine tv_callV1r kMO_82 (by decide) (Nat.le_of_ble_eq_true rfl) ⟨rfl, rfl⟩ rfl (mm_isTool ρ _) ⟨Nat.zero_le _, Nat.zero_le _⟩ dMO_force_22 ?_
    refine tv_if_ne (tgt := 30) dMO_force_25 (by decide) (fun c25 => absurd (tc_b2_n.mp c25) (by rw [hx]; simp)) (fun c25 => ?_)
    refine tv_iconst (v := 0) dMO_force_28 (by decide) ?_
    exact tv_iret dMO_force_29 rfl rfl hr hh
  · refine tv_iload_n dMO_force_10 rfl rfl ?_
    refine tv_callS1r kMO_78 (by decide) (Nat.le_of_ble_eq_true rfl) ⟨rfl, rfl⟩ (mm_isKind _ _) ⟨Nat.zero_le _, Nat.zero_le _⟩ dMO_force_11 ?_
    refine tv_if_ne (tgt := 30) dMO_force_14 (by decide) (fun c14 => absurd (tc_b2_n.mp c14) (by rw [hy c7]; simp)) (fun c14 => ?_)
    refine tv_goto (tgt := 28) dMO_force_17 (by decide) ?_
    refine tv_iconst (v := 0) dMO_force_28 (by decide) ?_
    exact tv_iret dMO_force_29 rfl rfl hr hh
set_option maxHeartbeats 4000000 in
set_option maxRecDepth 100000 in
theorem mm_force_no (τ : tcS) {x y : Int32} (hx : tc_isN x ((tc_s4 τ 5 0).2.2.2 1) = false) (hy : x = -1 → tc_isN y 8 = false) : tc_M yMO_force cMO_force 3 (some .boolean) 1 [.inr (some 0), .inl x, .inl y] (tm_h τ, some (.inl 0), tm_h (tc_s4 τ 5 0), 0, 0) := by
  refine tc_met (by decide) (Nat.le_of_ble_eq_true rfl) (Nat.le_of_eq tm_len) rfl ?_
  refine tv_aload_n dMO_force_0 rfl rfl ?_
  refine tv_iconst (v := 0) dMO_force_1 (by decide) ?_
  refine tv_top (b := .inl (nI 0)) rfl ?_
  refine pMO_68 rfl dMO_force_2 ?_
  exact mp_force_no (tc_s4 τ 5 0) hx hy rfl rfl
set_option maxHeartbeats 4000000 in
set_option maxRecDepth 100000 in
theorem mp_built (ρ : tcS) (hI : tm_I ρ) {t p : Nat} (ht : t < ρ.2.2.2 1) (hp : p < ρ.2.2.2 0) {K : tcK} (hr : K.2.1 = some (.inl (tc_b2 (tm_bl (tm_build ρ) t p)))) (hh : K.2.2.1 = tm_h (tm_build ρ)) : tc_V (cMO_built, 3, yMO_built.cls, some .boolean, 5, yMO_built.name) K 0 0 (tm_h ρ) 5 [some (.inr (some 0)), some (.inl (nI t)), some (.inl (nI p))] [] := by
  obtain ⟨iP, iT, iN, iA, iR, iK, iO, iQ, iF, iB, iW⟩ := id hI
  refine tv_aload_n dMO_built_5 rfl rfl ?_
  refine tv_iload_n dMO_built_6 rfl rfl ?_
  refine tv_callV1r kMO_82 (by decide) (Nat.le_of_ble_eq_true rfl) ⟨rfl, rfl⟩ rfl (mm_isTool ρ _) ⟨Nat.zero_le _, Nat.zero_le _⟩ dMO_built_7 ?_
  refine tv_if_eq (tgt := 21) dMO_built_10 (by decide) (fun c10 => absurd (tc_b2_0.mp c10) (by rw [tc_isN_nI ht (by omega)]; simp)) (fun c10 => ?_)
  refine tv_aload_n dMO_built_13 rfl rfl ?_
  refine tv_iload_n dMO_built_14 rfl rfl ?_
  refine tv_callV1r kMO_118 (by decide) (Nat.le_of_ble_eq_true rfl) ⟨rfl, rfl⟩ rfl (mm_isPlatform ρ _) ⟨Nat.zero_le _, Nat.zero_le _⟩ dMO_built_15 ?_
  refine tv_if_ne (tgt := 23) dMO_built_18 (by decide) (fun c18 => ?_) (fun c18 => absurd (tc_b2_0.mp c18) (by rw [tc_isN_nI hp (by omega)]; simp))
  refine tv_aload_n dMO_built_23 rfl rfl ?_
  refine tv_callV0v kMO_121 (by decide) (Nat.le_of_ble_eq_true rfl) ⟨rfl, rfl⟩ rfl (mm_build ρ hI) ⟨Nat.zero_le _, Nat.zero_le _⟩ dMO_built_24 ?_
  refine tv_aload_n dMO_built_27 rfl rfl ?_
  refine gMO_50 rfl dMO_built_28 ?_
  refine tv_iload_n dMO_built_31 rfl rfl ?_
  refine tv_iload_n dMO_built_32 rfl rfl ?_
  refine tv_callS2r kMO_106 (by decide) (Nat.le_of_ble_eq_true rfl) ⟨rfl, rfl⟩ (mm_at _ t p) ⟨Nat.zero_le _, Nat.zero_le _⟩ dMO_built_33 ?_
  refine ldM_14 dMO_built_36 (by omega) ?_
  refine tv_top (b := .inl (tc_b2 (tm_bl (tm_build ρ) t p))) rfl ?_
  exact tv_iret dMO_built_37 rfl (by cases tm_bl (tm_build ρ) t p <;> rfl) hr hh
set_option maxHeartbeats 4000000 in
set_option maxRecDepth 100000 in
theorem mm_built (τ : tcS) (hI : tm_I τ) {t p : Nat} (ht : t < (tc_s4 τ 5 0).2.2.2 1) (hp : p < (tc_s4 τ 5 0).2.2.2 0) : tc_M yMO_built cMO_built 3 (some .boolean) 5 [.inr (some 0), .inl (nI t), .inl (nI p)] (tm_h τ, some (.inl (tc_b2 (tm_bl (tm_build (tc_s4 τ 5 0)) t p))), tm_h (tm_build (tc_s4 τ 5 0)), 0, 0) := by
  refine tc_met (by decide) (Nat.le_of_ble_eq_true rfl) (Nat.le_of_eq tm_len) rfl ?_
  refine tv_aload_n dMO_built_0 rfl rfl ?_
  refine tv_iconst (v := 0) dMO_built_1 (by decide) ?_
  refine tv_top (b := .inl (nI 0)) rfl ?_
  refine pMO_68 rfl dMO_built_2 ?_
  exact mp_built (tc_s4 τ 5 0) hI ht hp rfl rfl
set_option maxHeartbeats 4000000 in
set_option maxRecDepth 100000 in
theorem mp_built_no (ρ : tcS) {x y : Int32} (hx : tc_isN x (ρ.2.2.2 1) = false ∨ tc_isN y (ρ.2.2.2 0) = false) {K : tcK} (hr : K.2.1 = some (.inl 0)) (hh : K.2.2.1 = tm_h ρ) : tc_V (cMO_built, 3, yMO_built.cls, some .boolean, 5, yMO_built.name) K 0 0 (tm_h ρ) 5 [some (.inr (some 0)), some (.inl x), some (.inl y)] [] := by
  refine tv_aload_n dMO_built_5 rfl rfl ?_
  refine tv_iload_n dMO_built_6 rfl rfl ?_
  refine tv_callV1r kMO_82 (by decide) (Nat.le_of_ble_eq_true rfl) ⟨rfl, rfl⟩ rfl (mm_isTool ρ _) ⟨Nat.zero_le _, Nat.zero_le _⟩ dMO_built_7 ?_
  refine tv_if_eq (tgt := 21) dMO_built_10 (by decide) (fun c10 => ?_) (fun c10 => ?_)
  · refine tv_iconst (v := 0) dMO_built_21 (by decide) ?_
    exact tv_iret dMO_built_22 rfl rfl hr hh
  · have hy : tc_isN y (ρ.2.2.2 0) = false := by
      rcases hx with q | q
      · exact absurd (tc_b2_0.mpr q) c10
      · exact q
    refine tv_aload_n dMO_built_13 rfl rfl ?_
    refine tv_iload_n dMO_built_14 rfl rfl ?_
    refine tv_callV1r kMO_118 (by decide) (Nat.le_of_ble_eq_true rfl) ⟨rfl, rfl⟩ rfl (mm_isPlatform ρ _) ⟨Nat.zero_le _, Nat.zero_le _⟩ dMO_built_15 ?_
    refine tv_if_ne (tgt := 23) dMO_built_18 (by decide) (fun c18 => absurd (tc_b2_n.mp c18) (by rw [hy]; simp)) (fun c18 => ?_)
    refine tv_iconst (v := 0) dMO_built_21 (by decide) ?_
    exact tv_iret dMO_built_22 rfl rfl hr hh
set_option maxHeartbeats 4000000 in
set_option maxRecDepth 100000 in
theorem mm_built_no (τ : tcS) {x y : Int32} (hx : tc_isN x ((tc_s4 τ 5 0).2.2.2 1) = false ∨ tc_isN y ((tc_s4 τ 5 0).2.2.2 0) = false) : tc_M yMO_built cMO_built 3 (some .boolean) 5 [.inr (some 0), .inl x, .inl y] (tm_h τ, some (.inl 0), tm_h (tc_s4 τ 5 0), 0, 0) := by
  refine tc_met (by decide) (Nat.le_of_ble_eq_true rfl) (Nat.le_of_eq tm_len) rfl ?_
  refine tv_aload_n dMO_built_0 rfl rfl ?_
  refine tv_iconst (v := 0) dMO_built_1 (by decide) ?_
  refine tv_top (b := .inl (nI 0)) rfl ?_
  refine pMO_68 rfl dMO_built_2 ?_
  exact mp_built_no (tc_s4 τ 5 0) hx rfl rfl
set_option maxHeartbeats 4000000 in
set_option maxRecDepth 100000 in
theorem mp_chosen (ρ : tcS) {k : Nat} (hk : k < 8) {K : tcK} (hr : K.2.1 = some (.inl (tc_oI (ρ.2.2.1 1 k)))) (hh : K.2.2.1 = tm_h ρ) : tc_V (cMO_chosen, 2, yMO_chosen.cls, some .int, 1, yMO_chosen.name) K 0 0 (tm_h ρ) 5 [some (.inr (some 0)), some (.inl (nI k))] [] := by
  refine tv_iload_n dMO_chosen_5 rfl rfl ?_
  refine tv_callS1r kMO_78 (by decide) (Nat.le_of_ble_eq_true rfl) ⟨rfl, rfl⟩ (mm_isKind _ _) ⟨Nat.zero_le _, Nat.zero_le _⟩ dMO_chosen_6 ?_
  refine tv_if_eq (tgt := 21) dMO_chosen_9 (by decide) (fun c9 => absurd (tc_b2_0.mp c9) (by rw [tc_isN_nI hk (by omega)]; simp)) (fun c9 => ?_)
  refine tv_aload_n dMO_chosen_12 rfl rfl ?_
  refine gMO_43 rfl dMO_chosen_13 ?_
  refine tv_iload_n dMO_chosen_16 rfl rfl ?_
  refine ldM_12 dMO_chosen_17 hk ?_
  refine tv_goto (tgt := 22) dMO_chosen_18 (by decide) ?_
  exact tv_iret dMO_chosen_22 rfl rfl hr hh
set_option maxHeartbeats 4000000 in
set_option maxRecDepth 100000 in
theorem mm_chosen (τ : tcS) {k : Nat} (hk : k < 8) : tc_M yMO_chosen cMO_chosen 2 (some .int) 1 [.inr (some 0), .inl (nI k)] (tm_h τ, some (.inl (tc_oI ((tc_s4 τ 5 0).2.2.1 1 k))), tm_h (tc_s4 τ 5 0), 0, 0) := by
  refine tc_met (by decide) (Nat.le_of_ble_eq_true rfl) (Nat.le_of_eq tm_len) rfl ?_
  refine tv_aload_n dMO_chosen_0 rfl rfl ?_
  refine tv_iconst (v := 0) dMO_chosen_1 (by decide) ?_
  refine tv_top (b := .inl (nI 0)) rfl ?_
  refine pMO_68 rfl dMO_chosen_2 ?_
  exact mp_chosen (tc_s4 τ 5 0) hk rfl rfl
set_option maxHeartbeats 4000000 in
set_option maxRecDepth 100000 in
theorem mp_chosen_no (ρ : tcS) {x : Int32} (hx : tc_isN x 8 = false) {K : tcK} (hr : K.2.1 = some (.inl (-1))) (hh : K.2.2.1 = tm_h ρ) : tc_V (cMO_chosen, 2, yMO_chosen.cls, some .int, 1, yMO_chosen.name) K 0 0 (tm_h ρ) 5 [some (.inr (some 0)), some (.inl x)] [] := by
  refine tv_iload_n dMO_chosen_5 rfl rfl ?_
  refine tv_callS1r kMO_78 (by decide) (Nat.le_of_ble_eq_true rfl) ⟨rfl, rfl⟩ (mm_isKind _ _) ⟨Nat.zero_le _, Nat.zero_le _⟩ dMO_chosen_6 ?_
  refine tv_if_eq (tgt := 21) dMO_chosen_9 (by decide) (fun c9 => ?_) (fun c9 => absurd (tc_b2_0.mpr hx) c9)
  refine tv_iconst (v := -1) dMO_chosen_21 (by decide) ?_
  exact tv_iret dMO_chosen_22 rfl rfl hr hh
set_option maxHeartbeats 4000000 in
set_option maxRecDepth 100000 in
theorem mm_chosen_no (τ : tcS) {x : Int32} (hx : tc_isN x 8 = false) : tc_M yMO_chosen cMO_chosen 2 (some .int) 1 [.inr (some 0), .inl x] (tm_h τ, some (.inl (-1)), tm_h (tc_s4 τ 5 0), 0, 0) := by
  refine tc_met (by decide) (Nat.le_of_ble_eq_true rfl) (Nat.le_of_eq tm_len) rfl ?_
  refine tv_aload_n dMO_chosen_0 rfl rfl ?_
  refine tv_iconst (v := 0) dMO_chosen_1 (by decide) ?_
  refine tv_top (b := .inl (nI 0)) rfl ?_
  refine pMO_68 rfl dMO_chosen_2 ?_
  exact mp_chosen_no (tc_s4 τ 5 0) hx rfl rfl
set_option maxHeartbeats 4000000 in
set_option maxRecDepth 100000 in
theorem mp_rows (ρ : tcS)  {K : tcK} (hr : K.2.1 = some (.inl (nI (ρ.2.2.2 4)))) (hh : K.2.2.1 = tm_h ρ) : tc_V (cMO_rows, 1, yMO_rows.cls, some .int, 0, yMO_rows.name) K 0 0 (tm_h ρ) 5 [some (.inr (some 0))] [] := by
  refine tv_aload_n dMO_rows_5 rfl rfl ?_
  refine gMO_124 rfl dMO_rows_6 ?_
  exact tv_iret dMO_rows_9 rfl rfl hr hh
set_option maxHeartbeats 4000000 in
set_option maxRecDepth 100000 in
theorem mm_rows (τ : tcS)  : tc_M yMO_rows cMO_rows 1 (some .int) 0 [.inr (some 0)] (tm_h τ, some (.inl (nI ((tc_s4 τ 5 0).2.2.2 4))), tm_h (tc_s4 τ 5 0), 0, 0) := by
  refine tc_met (by decide) (Nat.le_of_ble_eq_true rfl) (Nat.le_of_eq tm_len) rfl ?_
  refine tv_aload_n dMO_rows_0 rfl rfl ?_
  refine tv_iconst (v := 0) dMO_rows_1 (by decide) ?_
  refine tv_top (b := .inl (nI 0)) rfl ?_
  refine pMO_68 rfl dMO_rows_2 ?_
  exact mp_rows (tc_s4 τ 5 0)  rfl rfl
def tm_row (τ : tcS) (i w : Int32) : Int32 := if tc_isN i (τ.2.2.2 4) = true then
  (if w = 0 then nI (τ.2.1 5 i.toNatClampNeg) else if w = 1 then nI (τ.2.1 6 i.toNatClampNeg) else if w = 2 then nI (τ.2.1 7 i.toNatClampNeg) else if w = 3 then tc_oI (τ.2.2.1 2 i.toNatClampNeg) else -1) else -1
set_option maxHeartbeats 4000000 in
set_option maxRecDepth 100000 in
theorem mp_row (ρ : tcS) (hI : tm_I ρ) (i w : Int32) {K : tcK} (hr : K.2.1 = some (.inl (tm_row ρ i w))) (hh : K.2.2.1 = tm_h ρ) : tc_V (cMO_row, 3, yMO_row.cls, some .int, 0, yMO_row.name) K 0 0 (tm_h ρ) 5 [some (.inr (some 0)), some (.inl i), some (.inl w)] [] := by
  obtain ⟨iP, iT, iN, iA, iR, iK, iO, iQ, iF, iB, iW⟩ := id hI
  refine tv_iload_n dMO_row_5 rfl rfl ?_
  refine tv_if_lt (tgt := 17) dMO_row_6 (by decide) (fun c6 => ?_) (fun c6 => ?_)
  · have hr2 : tm_row ρ i w = -1 := by unfold tm_row; rw [if_neg (by rw [tc_isN_neg c6]; simp)]
    refine tv_iconst (v := -1) dMO_row_17 (by decide) ?_
    exact tv_iret dMO_row_18 rfl rfl (by rw [hr, hr2]) hh
  · refine tv_iload_n dMO_row_9 rfl rfl ?_
    refine tv_aload_n dMO_row_10 rfl rfl ?_
    refine gMO_124 rfl dMO_row_11 ?_
    refine tv_icmp_lt (tgt := 19) dMO_row_14 (by decide) (fun c14 => ?_) (fun c14 => ?_)
    · obtain ⟨a, ha, ea⟩ := tc_isN_ex (n := ρ.2.2.2 4) (by omega) (tc_isN_in c6 (fun q => by rw [Int32.le_iff_toInt_le] at q; rw [Int32.lt_iff_toInt_lt] at c14; omega))
      subst ea
      refine tv_iload_n dMO_row_19 rfl rfl ?_
      refine tv_if_ne (tgt := 32) dMO_row_20 (by decide) (fun c20 => ?_) (fun c20 => ?_)
      · refine tv_iload_n dMO_row_32 rfl rfl ?_
        refine tv_iconst (v := 1) dMO_row_33 (by decide) ?_
        refine tv_icmp_ne (tgt := 46) dMO_row_34 (by decide) (fun c34 => ?_) (fun c34 => ?_)
        · refine tv_iload_n dMO_row_46 rfl rfl ?_
          refine tv_iconst (v := 2) dMO_row_47 (by decide) ?_
          refine tv_icmp_ne (tgt := 60) dMO_row_48 (by decide) (fun c48 => ?_) (fun c48 => ?_)
          · refine tv_iload_n dMO_row_60 rfl rfl ?_
            refine tv_iconst (v := 3) dMO_row_61 (by decide) ?_
            refine tv_icmp_ne (tgt := 74) dMO_row_62 (by decide) (fun c62 => ?_) (fun c62 => ?_)
            · have hr2 : tm_row ρ (nI a) w = -1 := by unfold tm_row; rw [if_pos (tc_isN_nI ha (by omega)), if_neg c20, if_neg c34, if_neg c48, if_neg c62]
              refine tv_iconst (v := -1) dMO_row_74 (by decide) ?_
              exact tv_iret dMO_row_75 rfl rfl (by rw [hr, hr2]) hh
            · have hr2 : tm_row ρ (nI a) w = tc_oI (ρ.2.2.1 2 a) := by unfold tm_row; rw [if_pos (tc_isN_nI ha (by omega)), if_neg c20, if_neg c34, if_neg c48, if_pos c62, nI_clamp (by omega)]
              refine tv_aload_n dMO_row_65 rfl rfl ?_
              refine gMO_65 rfl dMO_row_66 ?_
              refine tv_iload_n dMO_row_69 rfl rfl ?_
              refine ldM_19 dMO_row_70 (by omega) ?_
              refine tv_goto (tgt := 75) dMO_row_71 (by decide) ?_
              exact tv_iret dMO_row_75 rfl rfl (by rw [hr, hr2]) hh
          · have hr2 : tm_row ρ (nI a) w = nI (ρ.2.1 7 a) := by unfold tm_row; rw [if_pos (tc_isN_nI ha (by omega)), if_neg c20, if_neg c34, if_pos c48, nI_clamp (by omega)]
            refine tv_aload_n dMO_row_51 rfl rfl ?_
            refine gMO_62 rfl dMO_row_52 ?_
            refine tv_iload_n dMO_row_55 rfl rfl ?_
            refine ldM_18 dMO_row_56 (by omega) ?_
            refine tv_goto (tgt := 75) dMO_row_57 (by decide) ?_
            exact tv_iret dMO_row_75 rfl rfl (by rw [hr, hr2]) hh
        · have hr2 : tm_row ρ (nI a) w = nI (ρ.2.1 6 a) := by unfold tm_row; rw [if_pos (tc_isN_nI ha (by omega)), if_neg c20, if_pos c34, nI_clamp (by omega)]
          refine tv_aload_n dMO_row_37 rfl rfl ?_
          refine gMO_59 rfl dMO_row_38 ?_
          refine tv_iload_n dMO_row_41 rfl rfl ?_
          refine ldM_17 dMO_row_42 (by omega) ?_
          refine tv_goto (tgt := 75) dMO_row_43 (by decide) ?_
          exact tv_iret dMO_row_75 rfl rfl (by rw [hr, hr2]) hh
      · have hr2 : tm_row ρ (nI a) w = nI (ρ.2.1 5 a) := by unfold tm_row; rw [if_pos (tc_isN_nI ha (by omega)), if_pos c20, nI_clamp (by omega)]
        refine tv_aload_n dMO_row_23 rfl rfl ?_
        refine gMO_56 rfl dMO_row_24 ?_
        refine tv_iload_n dMO_row_27 rfl rfl ?_
        refine ldM_16 dMO_row_28 (by omega) ?_
        refine tv_goto (tgt := 75) dMO_row_29 (by decide) ?_
        exact tv_iret dMO_row_75 rfl rfl (by rw [hr, hr2]) hh
    · have hr2 : tm_row ρ i w = -1 := by unfold tm_row; rw [if_neg (fun q => c14 (of_decide_eq_true q).2)]
      refine tv_iconst (v := -1) dMO_row_17 (by decide) ?_
      exact tv_iret dMO_row_18 rfl rfl (by rw [hr, hr2]) hh
set_option maxHeartbeats 4000000 in
set_option maxRecDepth 100000 in
theorem mm_row (τ : tcS) (hI : tm_I τ) (i w : Int32) : tc_M yMO_row cMO_row 3 (some .int) 0 [.inr (some 0), .inl i, .inl w] (tm_h τ, some (.inl (tm_row (tc_s4 τ 5 0) i w)), tm_h (tc_s4 τ 5 0), 0, 0) := by
  refine tc_met (by decide) (Nat.le_of_ble_eq_true rfl) (Nat.le_of_eq tm_len) rfl ?_
  refine tv_aload_n dMO_row_0 rfl rfl ?_
  refine tv_iconst (v := 0) dMO_row_1 (by decide) ?_
  refine tv_top (b := .inl (nI 0)) rfl ?_
  refine pMO_68 rfl dMO_row_2 ?_
  exact mp_row (tc_s4 τ 5 0) hI i w rfl rfl
set_option maxHeartbeats 4000000 in
set_option maxRecDepth 100000 in
theorem mp_choose (ρ : tcS) (hI : tm_I ρ) {g : Nat} (hg0 : g < ρ.2.2.2 0) (hR : ρ.2.2.2 0 * tm_sm ρ (ρ.2.2.2 3) 0 ≤ 200) {K : tcK} (hr : K.2.1 = some (.inl (tc_oI (tm_choose g ρ).1))) (hh : K.2.2.1 = tm_h (tm_choose g ρ).2) : tc_V (cMO_choose, 3, yMO_choose.cls, some .int, 7, yMO_choose.name) K 0 0 (tm_h ρ) 5 [some (.inr (some 0)), some (.inl (nI g)), none] [] := by
  obtain ⟨iP, iT, iN, iA, iR, iK, iO, iQ, iF, iB, iW⟩ := id hI
  have hI2 : tm_I (tc_s4 ρ 4 0) := ⟨iP, iT, iN, iA, Nat.zero_le _, iK, iO, iQ, iF, iB, iW⟩
  have hb := tm_build_sb hI2
  have hsm : ∀ n i, tm_sm (tm_build (tc_s4 ρ 4 0)) n i = tm_sm ρ n i := by
    intro n
    induction n with
    | zero => intro i; rfl
    | succ n ih => intro i; unfold tm_sm; rw [ih, hb.2.1, hb.2.2.2]; rfl
  refine tv_aload_n dMO_choose_5 rfl rfl ?_
  refine tv_iload_n dMO_choose_6 rfl rfl ?_
  refine tv_callV1r kMO_118 (by decide) (Nat.le_of_ble_eq_true rfl) ⟨rfl, rfl⟩ rfl (mm_isPlatform ρ _) ⟨Nat.zero_le _, Nat.zero_le _⟩ dMO_choose_7 ?_
  refine tv_if_ne (tgt := 15) dMO_choose_10 (by decide) (fun c10 => ?_) (fun c10 => absurd (tc_b2_0.mp c10) (by rw [tc_isN_nI hg0 (by omega)]; simp))
  refine tv_aload_n dMO_choose_15 rfl rfl ?_
  refine tv_iconst (v := 0) dMO_choose_16 (by decide) ?_
  refine tv_top (b := .inl (nI 0)) rfl ?_
  refine pMO_124 rfl dMO_choose_17 ?_
  refine tv_aload_n dMO_choose_20 rfl rfl ?_
  refine tv_callV0v kMO_121 (by decide) (Nat.le_of_ble_eq_true rfl) ⟨rfl, rfl⟩ rfl (mm_build (tc_s4 ρ 4 0) hI2) ⟨Nat.zero_le _, Nat.zero_le _⟩ dMO_choose_21 ?_
  refine tv_iconst (v := 0) dMO_choose_24 (by decide) ?_
  refine tv_istN_2 dMO_choose_25 (by decide) ?_
  exact ml_choose_26 (ρ.2.2.2 0) 0 (tm_build (tc_s4 ρ 4 0)) (hb.I hI2) (by rw [hb.2.2.2]; exact hg0) (by rw [hb.2.2.2]; show 0 + _ = ρ.2.2.2 0; omega) (by rw [hsm, hb.2.2.2]; show 0 + ρ.2.2.2 0 * tm_sm ρ (ρ.2.2.2 3) 0 ≤ 200; omega) hr hh
set_option maxHeartbeats 4000000 in
set_option maxRecDepth 100000 in
theorem mm_choose (τ : tcS) (hI : tm_I τ) {g : Nat} (hg0 : g < (tc_s4 τ 5 0).2.2.2 0) (hR : (tc_s4 τ 5 0).2.2.2 0 * tm_sm (tc_s4 τ 5 0) ((tc_s4 τ 5 0).2.2.2 3) 0 ≤ 200) : tc_M yMO_choose cMO_choose 3 (some .int) 7 [.inr (some 0), .inl (nI g)] (tm_h τ, some (.inl (tc_oI (tm_choose g (tc_s4 τ 5 0)).1)), tm_h (tm_choose g (tc_s4 τ 5 0)).2, 0, 0) := by
  refine tc_met (by decide) (Nat.le_of_ble_eq_true rfl) (Nat.le_of_eq tm_len) rfl ?_
  refine tv_aload_n dMO_choose_0 rfl rfl ?_
  refine tv_iconst (v := 0) dMO_choose_1 (by decide) ?_
  refine tv_top (b := .inl (nI 0)) rfl ?_
  refine pMO_68 rfl dMO_choose_2 ?_
  exact mp_choose (tc_s4 τ 5 0) hI hg0 hR rfl rfl
set_option maxHeartbeats 4000000 in
set_option maxRecDepth 100000 in
theorem mp_choose_no (ρ : tcS) {x : Int32} (hx : tc_isN x (ρ.2.2.2 0) = false) {K : tcK} (hr : K.2.1 = some (.inl (-1))) (hh : K.2.2.1 = tm_h ρ) : tc_V (cMO_choose, 3, yMO_choose.cls, some .int, 7, yMO_choose.name) K 0 0 (tm_h ρ) 5 [some (.inr (some 0)), some (.inl x), none] [] := by
  refine tv_aload_n dMO_choose_5 rfl rfl ?_
  refine tv_iload_n dMO_choose_6 rfl rfl ?_
  refine tv_callV1r kMO_118 (by decide) (Nat.le_of_ble_eq_true rfl) ⟨rfl, rfl⟩ rfl (mm_isPlatform ρ _) ⟨Nat.zero_le _, Nat.zero_le _⟩ dMO_choose_7 ?_
  refine tv_if_ne (tgt := 15) dMO_choose_10 (by decide) (fun c10 => absurd (tc_b2_n.mp c10) (by rw [hx]; simp)) (fun c10 => ?_)
  refine tv_iconst (v := -1) dMO_choose_13 (by decide) ?_
  exact tv_iret dMO_choose_14 rfl rfl hr hh
set_option maxHeartbeats 4000000 in
set_option maxRecDepth 100000 in
theorem mm_choose_no (τ : tcS) {x : Int32} (hx : tc_isN x ((tc_s4 τ 5 0).2.2.2 0) = false) : tc_M yMO_choose cMO_choose 3 (some .int) 7 [.inr (some 0), .inl x] (tm_h τ, some (.inl (-1)), tm_h (tc_s4 τ 5 0), 0, 0) := by
  refine tc_met (by decide) (Nat.le_of_ble_eq_true rfl) (Nat.le_of_eq tm_len) rfl ?_
  refine tv_aload_n dMO_choose_0 rfl rfl ?_
  refine tv_iconst (v := 0) dMO_choose_1 (by decide) ?_
  refine tv_top (b := .inl (nI 0)) rfl ?_
  refine pMO_68 rfl dMO_choose_2 ?_
  exact mp_choose_no (tc_s4 τ 5 0) hx rfl rfl
end
section
theorem tv_idiv6 {M : tcM} {K : tcK} {nc ns : Nat} {h : List tcC} {pc : Nat} {L : List (Option tcV)} {st : List tcV} {a : Nat} (hd : decode M.1 pc = .ok (.idiv, 1)) (ha : a < 2 ^ 31) (k : tc_V M K nc ns h (pc + 1) L (.inl (nI (a / 6)) :: st)) : tc_V M K nc ns h pc L (.inl 6 :: .inl (nI a) :: st) := by
  intro l p e s m args below meth c D tg ad0 ad B hG H locs ls hP hD hS hL
  have e1 : nI a / 6 = nI (a / 6) := pk_div (d := 6) ha (by omega) (by omega)
  refine lv_idiv B.1 B.2.1 hd (by decide) ?_
  rw [e1]
  exact k l p e s m args below meth c D tg ad0 ad B hG H locs ls hP hD hS hL
theorem tv_irem6 {M : tcM} {K : tcK} {nc ns : Nat} {h : List tcC} {pc : Nat} {L : List (Option tcV)} {st : List tcV} {a : Nat} (hd : decode M.1 pc = .ok (.irem, 1)) (ha : a < 2 ^ 31) (k : tc_V M K nc ns h (pc + 1) L (.inl (nI (a % 6)) :: st)) : tc_V M K nc ns h pc L (.inl 6 :: .inl (nI a) :: st) := by
  intro l p e s m args below meth c D tg ad0 ad B hG H locs ls hP hD hS hL
  have e1 : nI a - nI a / 6 * 6 = nI (a % 6) := pk_rem (d := 6) ha (by omega) (by omega)
  refine lv_irem B.1 B.2.1 hd (by decide) ?_
  rw [e1]
  exact k l p e s m args below meth c D tg ad0 ad B hG H locs ls hP hD hS hL
def tm_pl (τ : tcS) (k : Nat) : Bool := decide (k / 6 < τ.2.2.2 1) && decide (k % 6 < τ.2.2.2 0)
def tm_ld (τ : tcS) (f t : Nat) : Bool := tc_fit (τ.1 1 (f / 6)) (τ.1 0 (f % 6)) && (tc_fit (τ.1 1 (t / 6)) (τ.1 0 (t % 6)) && (tm_wants τ (f / 6) (τ.2.1 0 (t / 6)) && tc_fit (τ.1 2 (t / 6)) (τ.1 0 (f % 6))))
set_option maxHeartbeats 4000000 in
set_option maxRecDepth 100000 in
theorem mm_isPlace (τ : tcS) (hI : tm_I τ) {k : Nat} (hk : k < 144) : tc_M yMO_isPlace cMO_isPlace 2 (some .boolean) 0 [.inr (some 0), .inl (nI k)] (tm_h τ, some (.inl (tc_b2 (tm_pl τ k))), tm_h τ, 0, 0) := by
  obtain ⟨iP, iT, iN, iA, iR, iK, iO, iQ, iF, iB, iW⟩ := id hI
  refine tc_met (by decide) (Nat.le_of_ble_eq_true rfl) (Nat.le_of_eq tm_len) rfl ?_
  refine tv_iload_n dMO_isPlace_0 rfl rfl ?_
  refine tv_bipush (v := 6) dMO_isPlace_1 (by decide) ?_
  refine tv_idiv6 dMO_isPlace_3 (by omega) ?_
  refine tv_aload_n dMO_isPlace_4 rfl rfl ?_
  refine gMO_75 rfl dMO_isPlace_5 ?_
  refine tv_icmp_ge (tgt := 26) dMO_isPlace_8 (by decide) (fun c8 => ?_) (fun c8 => ?_)
  · have hr := tc_rb (b := tm_pl τ k) (b' := false) (by unfold tm_pl; simp [Nat.not_lt.mpr ((nI_leI (by omega) (by omega)).mp c8)])
    refine tv_iconst (v := 0) dMO_isPlace_26 (by decide) ?_
    exact tv_iret dMO_isPlace_27 rfl rfl hr rfl
  · have d8 : k / 6 < τ.2.2.2 1 := Nat.not_le.mp (fun q => c8 (nI_le q (by omega)))
    refine tv_iload_n dMO_isPlace_11 rfl rfl ?_
    refine tv_bipush (v := 6) dMO_isPlace_12 (by decide) ?_
    refine tv_irem6 dMO_isPlace_14 (by omega) ?_
    refine tv_aload_n dMO_isPlace_15 rfl rfl ?_
    refine gMO_72 rfl dMO_isPlace_16 ?_
    refine tv_icmp_ge (tgt := 26) dMO_isPlace_19 (by decide) (fun c19 => ?_) (fun c19 => ?_)
    · have hr := tc_rb (b := tm_pl τ k) (b' := false) (by unfold tm_pl; simp [Nat.not_lt.mpr ((nI_leI (by omega) (by omega)).mp c19)])
      refine tv_iconst (v := 0) dMO_isPlace_26 (by decide) ?_
      exact tv_iret dMO_isPlace_27 rfl rfl hr rfl
    · have d19 : k % 6 < τ.2.2.2 0 := Nat.not_le.mp (fun q => c19 (nI_le q (by omega)))
      have hr := tc_rb (b := tm_pl τ k) (b' := true) (by unfold tm_pl; simp [d8, d19])
      refine tv_iconst (v := 1) dMO_isPlace_22 (by decide) ?_
      refine tv_goto (tgt := 27) dMO_isPlace_23 (by decide) ?_
      exact tv_iret dMO_isPlace_27 rfl rfl hr rfl
set_option maxHeartbeats 4000000 in
set_option maxRecDepth 100000 in
theorem mm_leads (τ : tcS) (hI : tm_I τ) {f t : Nat} (hf : f < 144) (ht : t < 144) (hu : t / 6 < τ.2.2.2 1) : tc_M yMO_leads cMO_leads 5 (some .boolean) 2 [.inr (some 0), .inl (nI f), .inl (nI t)] (tm_h τ, some (.inl (tc_b2 (tm_ld τ f t))), tm_h τ, 0, 0) := by
  obtain ⟨iP, iT, iN, iA, iR, iK, iO, iQ, iF, iB, iW⟩ := id hI
  refine tc_met (by decide) (Nat.le_of_ble_eq_true rfl) (Nat.le_of_eq tm_len) rfl ?_
  refine tv_iload_n dMO_leads_0 rfl rfl ?_
  refine tv_bipush (v := 6) dMO_leads_1 (by decide) ?_
  refine tv_idiv6 dMO_leads_3 (by omega) ?_
  refine tv_istN_3 dMO_leads_4 (by decide) ?_
  refine tv_iload_n dMO_leads_5 rfl rfl ?_
  refine tv_bipush (v := 6) dMO_leads_6 (by decide) ?_
  refine tv_idiv6 dMO_leads_8 (by omega) ?_
  refine tv_ist_4 dMO_leads_9 (by decide) ?_
  refine tv_aload_n dMO_leads_11 rfl rfl ?_
  refine tv_iload_n dMO_leads_12 rfl rfl ?_
  refine tv_iload_n dMO_leads_13 rfl rfl ?_
  refine tv_bipush (v := 6) dMO_leads_14 (by decide) ?_
  refine tv_irem6 dMO_leads_16 (by omega) ?_
  refine tv_callV2r kMO_112 (by decide) (Nat.le_of_ble_eq_true rfl) ⟨rfl, rfl⟩ rfl (mm_runsOn τ (by omega) (by omega)) ⟨Nat.zero_le _, Nat.zero_le _⟩ dMO_leads_17 ?_
  refine tv_if_eq (tgt := 68) dMO_leads_20 (by decide) (fun c20 => ?_) (fun c20 => ?_)
  · have hr := tc_rb (b := tm_ld τ f t) (b' := false) (by unfold tm_ld; simp [tc_b2_0.mp c20])
    refine tv_iconst (v := 0) dMO_leads_68 (by decide) ?_
    exact tv_iret dMO_leads_69 rfl rfl hr rfl
  · have d20 := tc_b2_n.mp c20
    refine tv_aload_n dMO_leads_23 rfl rfl ?_
    refine tv_iload dMO_leads_24 rfl ?_
    refine tv_iload_n dMO_leads_26 rfl rfl ?_
    refine tv_bipush (v := 6) dMO_leads_27 (by decide) ?_
    refine tv_irem6 dMO_leads_29 (by omega) ?_
    refine tv_callV2r kMO_112 (by decide) (Nat.le_of_ble_eq_true rfl) ⟨rfl, rfl⟩ rfl (mm_runsOn τ (by omega) (by omega)) ⟨Nat.zero_le _, Nat.zero_le _⟩ dMO_leads_30 ?_
    refine tv_if_eq (tgt := 68) dMO_leads_33 (by decide) (fun c33 => ?_) (fun c33 => ?_)
    · have hr := tc_rb (b := tm_ld τ f t) (b' := false) (by unfold tm_ld; simp [tc_b2_0.mp c33])
      refine tv_iconst (v := 0) dMO_leads_68 (by decide) ?_
      exact tv_iret dMO_leads_69 rfl rfl hr rfl
    · have d33 := tc_b2_n.mp c33
      refine tv_aload_n dMO_leads_36 rfl rfl ?_
      refine tv_iload_n dMO_leads_37 rfl rfl ?_
      refine tv_aload_n dMO_leads_38 rfl rfl ?_
      refine gMO_13 rfl dMO_leads_39 ?_
      refine tv_iload dMO_leads_42 rfl ?_
      refine ldM_2 dMO_leads_44 (by omega) ?_
      refine tv_callV2r kMO_88 (by decide) (Nat.le_of_ble_eq_true rfl) ⟨rfl, rfl⟩ rfl (mm_wants τ hI (by omega) (iK _ hu)) ⟨Nat.zero_le _, Nat.zero_le _⟩ dMO_leads_45 ?_
      refine tv_if_eq (tgt := 68) dMO_leads_48 (by decide) (fun c48 => ?_) (fun c48 => ?_)
      · have hr := tc_rb (b := tm_ld τ f t) (b' := false) (by unfold tm_ld; simp [tc_b2_0.mp c48])
        refine tv_iconst (v := 0) dMO_leads_68 (by decide) ?_
        exact tv_iret dMO_leads_69 rfl rfl hr rfl
      · have d48 := tc_b2_n.mp c48
        refine tv_aload_n dMO_leads_51 rfl rfl ?_
        refine tv_iload dMO_leads_52 rfl ?_
        refine tv_iload_n dMO_leads_54 rfl rfl ?_
        refine tv_bipush (v := 6) dMO_leads_55 (by decide) ?_
        refine tv_irem6 dMO_leads_57 (by omega) ?_
        refine tv_callV2r kMO_103 (by decide) (Nat.le_of_ble_eq_true rfl) ⟨rfl, rfl⟩ rfl (mm_makesFor τ (by omega) (by omega)) ⟨Nat.zero_le _, Nat.zero_le _⟩ dMO_leads_58 ?_
        refine tv_if_eq (tgt := 68) dMO_leads_61 (by decide) (fun c61 => ?_) (fun c61 => ?_)
        · have hr := tc_rb (b := tm_ld τ f t) (b' := false) (by unfold tm_ld; simp [tc_b2_0.mp c61])
          refine tv_iconst (v := 0) dMO_leads_68 (by decide) ?_
          exact tv_iret dMO_leads_69 rfl rfl hr rfl
        · have hr := tc_rb (b := tm_ld τ f t) (b' := true) (by unfold tm_ld; simp [d20, d33, d48, tc_b2_n.mp c61])
          refine tv_iconst (v := 1) dMO_leads_64 (by decide) ?_
          refine tv_goto (tgt := 69) dMO_leads_65 (by decide) ?_
          exact tv_iret dMO_leads_69 rfl rfl hr rfl
/-- all but 'met' is as it was -/
def tm_sq (τ ρ : tcS) : Prop := ρ.1 = τ.1 ∧ ρ.2.1 = τ.2.1 ∧ (∀ k, k ≠ 4 → ρ.2.2.1 k = τ.2.2.1 k) ∧ ρ.2.2.2 = τ.2.2.2
theorem tm_sq.rf {τ : tcS} : tm_sq τ τ := ⟨rfl, rfl, fun _ _ => rfl, rfl⟩
theorem tm_sq.tr {τ ρ κ : tcS} (h : tm_sq τ ρ) (k : tm_sq ρ κ) : tm_sq τ κ := ⟨k.1.trans h.1, k.2.1.trans h.2.1, fun j hj => (k.2.2.1 j hj).trans (h.2.2.1 j hj), k.2.2.2.trans h.2.2.2⟩
theorem tm_sq.put (τ : tcS) (f : Nat → Option Nat) : tm_sq τ (tc_s3 τ 4 f) := ⟨rfl, rfl, fun k hk => by
  show va_up τ.2.2.1 4 f k = _
  simp [va_up, hk], rfl⟩
theorem tm_sq.I {τ ρ : tcS} (h : tm_sq τ ρ) (hI : tm_I τ) : tm_I ρ := by
  unfold tm_I
  rw [h.1, h.2.1, h.2.2.1 0 (by omega), h.2.2.2]
  exact hI
def tm_clm (j : Nat) (ρ : tcS) : tcS := tc_s3 ρ 4 (va_up (ρ.2.2.1 4) j none)
def tm_sm4 (t : Nat) (ρ : tcS) : tcS := tc_s3 ρ 4 (va_up (ρ.2.2.1 4) t (some 0))
def tm_cs (f t : Nat) (a : tcS × Bool) : tcS × Bool := if (a.1.2.2.1 4 t).isSome = false ∧ tm_pl a.1 t = true ∧ (a.1.2.2.1 3 t).isSome = false ∧ tm_ld a.1 f t = true then (tm_sm4 t a.1, true) else a
def tm_cf (s f : Nat) (a : tcS × Bool) : tcS × Bool := if (f = s ∨ (a.1.2.2.1 4 f).isSome = true) ∧ tm_pl a.1 f = true then tc_up (tm_cs f) 144 0 a else a
def tm_cp (s : Nat) (ρ : tcS) : tcS × Bool := tc_up (tm_cf s) 144 0 (ρ, false)
def tm_cb (s : Nat) : Nat → tcS × Bool → tcS
  | 0, a => a.1
  | n + 1, a => if a.2 = true ∧ (a.1.2.2.1 4 s).isSome = false then tm_cb s n (tm_cp s a.1) else a.1
def tm_come (s : Nat) (τ : tcS) : tcS := tm_cb s 145 (tc_up tm_clm 144 0 τ, true)
def tm_mq (a b : tcS × Bool) : Prop := tm_sq a.1 b.1 ∧ cz (b.1.2.2.1 4) 144 ≤ cz (a.1.2.2.1 4) 144 ∧ (b.2 = true → a.2 = true ∨ cz (b.1.2.2.1 4) 144 < cz (a.1.2.2.1 4) 144)
theorem tm_mq.rf (a : tcS × Bool) : tm_mq a a := ⟨tm_sq.rf, Nat.le_refl _, Or.inl⟩
theorem tm_mq.tr (a b c : tcS × Bool) (h : tm_mq a b) (k : tm_mq b c) : tm_mq a c := ⟨h.1.tr k.1, Nat.le_trans k.2.1 h.2.1, fun q => by
  rcases k.2.2 q with q | q
  · rcases h.2.2 q with q | q
    · exact Or.inl q
    · exact Or.inr (Nat.lt_of_le_of_lt k.2.1 q)
  · exact Or.inr (Nat.lt_of_lt_of_le q h.2.1)⟩
theorem tm_cs_mq (f : Nat) {t : Nat} (h : t < 144) (a : tcS × Bool) : tm_mq a (tm_cs f t a) := by
  unfold tm_cs
  split
  · rename_i q
    have hn : a.1.2.2.1 4 t = none := by
      cases e : a.1.2.2.1 4 t
      · rfl
      · have := q.1
        rw [e] at this
        cases this
    have hc := cz_up (f := a.1.2.2.1 4) (j := t) (v := 0) (n := 144)
    exact ⟨tm_sq.put _ _, hc.1, fun _ => Or.inr (hc.2 h hn)⟩
  · exact tm_mq.rf a
theorem tm_cs_up (f : Nat) : ∀ (n t : Nat) (a : tcS × Bool), t + n ≤ 144 → tm_mq a (tc_up (tm_cs f) n t a)
  | 0, _, a, _ => tm_mq.rf a
  | n + 1, t, a, h => tm_mq.tr _ _ _ (tm_cs_mq f (by omega) a) (tm_cs_up f n (t + 1) (tm_cs f t a) (by omega))
theorem tm_cf_mq (s f : Nat) (a : tcS × Bool) : tm_mq a (tm_cf s f a) := by
  unfold tm_cf
  split
  · exact tm_cs_up f 144 0 a (by omega)
  · exact tm_mq.rf a
theorem tm_cf_up (s : Nat) (n f : Nat) (a : tcS × Bool) : tm_mq a (tc_up (tm_cf s) n f a) := tc_up_rel (R := tm_mq) tm_mq.rf tm_mq.tr (tm_cf_mq s) n f a
theorem tm_clm_sq : ∀ (n j : Nat) (ρ : tcS), tm_sq ρ (tc_up tm_clm n j ρ) := tc_up_rel (R := tm_sq) (fun _ => tm_sq.rf) (fun _ _ _ h k => h.tr k) (fun j a => tm_sq.put a _)
theorem tm_cb_sq (s : Nat) : ∀ (n : Nat) (a : tcS × Bool), tm_sq a.1 (tm_cb s n a)
  | 0, _ => tm_sq.rf
  | n + 1, a => by
    unfold tm_cb
    split
    · exact tm_sq.tr (tm_cf_up s 144 0 (a.1, false)).1 (tm_cb_sq s n (tm_cp s a.1))
    · exact tm_sq.rf
theorem tm_come_sq (s : Nat) (τ : tcS) : tm_sq τ (tm_come s τ) := (tm_clm_sq 144 0 τ).tr (tm_cb_sq s 145 (tc_up tm_clm 144 0 τ, true))
set_option maxHeartbeats 4000000 in
set_option maxRecDepth 100000 in
theorem ml_comesBack_2 {s : Nat} {K : tcK} : ∀ (n : Nat) (j : Nat) (ρ : tcS), j + n = 144 → tc_V (cMO_comesBack, 5, yMO_comesBack.cls, some .boolean, 3, yMO_comesBack.name) K 0 0 (tm_h (tc_up tm_clm n j ρ)) 24 [some (.inr (some 0)), some (.inl (nI s)), none, none, none] [] → tc_V (cMO_comesBack, 5, yMO_comesBack.cls, some .boolean, 3, yMO_comesBack.name) K 0 0 (tm_h ρ) 2 [some (.inr (some 0)), some (.inl (nI s)), some (.inl (nI j)), none, none] [] := by
  intro n
  induction n with
  | zero =>
    intro j ρ hj hx
    refine tv_iload_n dMO_comesBack_2 rfl rfl ?_
    refine tv_aload_n dMO_comesBack_3 rfl rfl ?_
    refine gMO_53 rfl dMO_comesBack_4 ?_
    refine lenM_15 dMO_comesBack_7 ?_
    refine tv_icmp_ge (tgt := 24) dMO_comesBack_8 (by decide) (fun c8 => ?_) (fun c8 => absurd (nI_le (a := 144) (b := j) (by omega) (by omega)) c8)
    refine tv_fg_2 ?_
    exact hx
  | succ n ih =>
    intro j ρ hj hx
    refine tv_iload_n dMO_comesBack_2 rfl rfl ?_
    refine tv_aload_n dMO_comesBack_3 rfl rfl ?_
    refine gMO_53 rfl dMO_comesBack_4 ?_
    refine lenM_15 dMO_comesBack_7 ?_
    refine tv_icmp_ge (tgt := 24) dMO_comesBack_8 (by decide) (fun c8 => absurd c8 (nI_ge (a := j) (b := 144) (by omega) (by omega))) (fun c8 => ?_)
    refine tv_aload_n dMO_comesBack_11 rfl rfl ?_
    refine gMO_53 rfl dMO_comesBack_12 ?_
    refine tv_iload_n dMO_comesBack_15 rfl rfl ?_
    refine tv_iconst (v := 0) dMO_comesBack_16 (by decide) ?_
    refine stM_15 none dMO_comesBack_17 (by omega) ?_
    refine tv_iinc_2 dMO_comesBack_18 (by decide) (nI_1 j) ?_
    refine tv_goto (tgt := 2) dMO_comesBack_21 (by decide) ?_
    exact ih (j + 1) (tm_clm j ρ) (by omega) hx
set_option maxHeartbeats 4000000 in
set_option maxRecDepth 100000 in
theorem ml_comesBack_80 {s f : Nat} (hf : f < 144) {K : tcK} : ∀ (n : Nat) (t : Nat) (a : tcS × Bool), tm_I a.1 → t + n = 144 → tc_V (cMO_comesBack, 5, yMO_comesBack.cls, some .boolean, 3, yMO_comesBack.name) K 0 0 (tm_h (tc_up (tm_cs f) n t a).1) 148 [some (.inr (some 0)), some (.inl (nI s)), some (.inl (tc_b2 (tc_up (tm_cs f) n t a).2)), some (.inl (nI f)), none] [] → tc_V (cMO_comesBack, 5, yMO_comesBack.cls, some .boolean, 3, yMO_comesBack.name) K 0 0 (tm_h a.1) 80 [some (.inr (some 0)), some (.inl (nI s)), some (.inl (tc_b2 a.2)), some (.inl (nI f)), some (.inl (nI t))] [] := by
  intro n
  induction n with
  | zero =>
    intro t a hI ht hx
    refine tv_iload dMO_comesBack_80 rfl ?_
    refine tv_aload_n dMO_comesBack_82 rfl rfl ?_
    refine gMO_53 rfl dMO_comesBack_83 ?_
    refine lenM_15 dMO_comesBack_86 ?_
    refine tv_icmp_ge (tgt := 148) dMO_comesBack_87 (by decide) (fun c87 => ?_) (fun c87 => absurd (nI_le (a := 144) (b := t) (by omega) (by omega)) c87)
    refine tv_fg_4 ?_
    exact hx
  | succ n ih =>
    intro t a hI ht hx
    refine tv_iload dMO_comesBack_80 rfl ?_
    refine tv_aload_n dMO_comesBack_82 rfl rfl ?_
    refine gMO_53 rfl dMO_comesBack_83 ?_
    refine lenM_15 dMO_comesBack_86 ?_
    refine tv_icmp_ge (tgt := 148) dMO_comesBack_87 (by decide) (fun c87 => absurd c87 (nI_ge (a := t) (b := 144) (by omega) (by omega))) (fun c87 => ?_)
    refine tv_aload_n dMO_comesBack_90 rfl rfl ?_
    refine gMO_53 rfl dMO_comesBack_91 ?_
    refine tv_iload dMO_comesBack_94 rfl ?_
    refine ldM_15 dMO_comesBack_96 (by omega) ?_
    refine tv_if_ne (tgt := 142) dMO_comesBack_97 (by decide) (fun c97 => ?_) (fun c97 => ?_)
    · have e1 : tm_cs f t a = a := by unfold tm_cs; rw [if_neg (fun q => by have := q.1; rw [tc_b2_n.mp c97] at this; cases this)]
      have h9 := ih (t + 1) a hI (by omega) (by rw [← e1]; exact hx)
      refine tv_iinc_4 dMO_comesBack_142 (by decide) (nI_1 t) ?_
      refine tv_goto (tgt := 80) dMO_comesBack_145 (by decide) ?_
      exact h9
    · have d97 := tc_b2_0.mp c97
      refine tv_aload_n dMO_comesBack_100 rfl rfl ?_
      refine tv_iload dMO_comesBack_101 rfl ?_
      refine tv_callV1r kMO_141 (by decide) (Nat.le_of_ble_eq_true rfl) ⟨rfl, rfl⟩ rfl (mm_isPlace a.1 hI (by omega)) ⟨Nat.zero_le _, Nat.zero_le _⟩ dMO_comesBack_103 ?_
      refine tv_if_eq (tgt := 142) dMO_comesBack_106 (by decide) (fun c106 => ?_) (fun c106 => ?_)
      · have e1 : tm_cs f t a = a := by unfold tm_cs; rw [if_neg (fun q => by have := q.2.1; rw [tc_b2_0.mp c106] at this; cases this)]
        have h9 := ih (t + 1) a hI (by omega) (by rw [← e1]; exact hx)
        refine tv_iinc_4 dMO_comesBack_142 (by decide) (nI_1 t) ?_
        refine tv_goto (tgt := 80) dMO_comesBack_145 (by decide) ?_
        exact h9
      · have d106 := tc_b2_n.mp c106
        have hpl : t / 6 < a.1.2.2.2 1 := by
          unfold tm_pl at d106
          rw [Bool.and_eq_true, decide_eq_true_eq] at d106
          exact d106.1
        refine tv_aload_n dMO_comesBack_109 rfl rfl ?_
        refine gMO_50 rfl dMO_comesBack_110 ?_
        refine tv_iload dMO_comesBack_113 rfl ?_
        refine ldM_14 dMO_comesBack_115 (by omega) ?_
        refine tv_if_ne (tgt := 142) dMO_comesBack_116 (by decide) (fun c116 => ?_) (fun c116 => ?_)
        · have e1 : tm_cs f t a = a := by unfold tm_cs; rw [if_neg (fun q => by have := q.2.2.1; rw [tc_b2_n.mp c116] at this; cases this)]
          have h9 := ih (t + 1) a hI (by omega) (by rw [← e1]; exact hx)
          refine tv_iinc_4 dMO_comesBack_142 (by decide) (nI_1 t) ?_
          refine tv_goto (tgt := 80) dMO_comesBack_145 (by decide) ?_
          exact h9
        · have d116 := tc_b2_0.mp c116
          refine tv_aload_n dMO_comesBack_119 rfl rfl ?_
          refine tv_iload_n dMO_comesBack_120 rfl rfl ?_
          refine tv_iload dMO_comesBack_121 rfl ?_
          refine tv_callV2r kMO_144 (by decide) (Nat.le_of_ble_eq_true rfl) ⟨rfl, rfl⟩ rfl (mm_leads a.1 hI hf (by omega) hpl) ⟨Nat.zero_le _, Nat.zero_le _⟩ dMO_comesBack_123 ?_
          refine tv_if_ne (tgt := 132) dMO_comesBack_126 (by decide) (fun c126 => ?_) (fun c126 => ?_)
          · have e1 : tm_cs f t a = (tm_sm4 t a.1, true) := by unfold tm_cs; rw [if_pos ⟨d97, d106, d116, tc_b2_n.mp c126⟩]
            have h9 := ih (t + 1) (tm_sm4 t a.1, true) ((tm_sq.put _ _).I hI) (by omega) (by rw [← e1]; exact hx)
            refine tv_aload_n dMO_comesBack_132 rfl rfl ?_
            refine gMO_53 rfl dMO_comesBack_133 ?_
            refine tv_iload dMO_comesBack_136 rfl ?_
            refine tv_iconst (v := 1) dMO_comesBack_138 (by decide) ?_
            refine stM_15 (some 0) dMO_comesBack_139 (by omega) ?_
            refine tv_eq (h' := tm_h (tm_sm4 t a.1)) ?_ rfl rfl rfl
            refine tv_iconst (v := 1) dMO_comesBack_140 (by decide) ?_
            refine tv_istN_2 dMO_comesBack_141 (by decide) ?_
            refine tv_iinc_4 dMO_comesBack_142 (by decide) (nI_1 t) ?_
            refine tv_goto (tgt := 80) dMO_comesBack_145 (by decide) ?_
            exact h9
          · have e1 : tm_cs f t a = a := by unfold tm_cs; rw [if_neg (fun q => by have := q.2.2.2; rw [tc_b2_0.mp c126] at this; cases this)]
            have h9 := ih (t + 1) a hI (by omega) (by rw [← e1]; exact hx)
            refine tv_goto (tgt := 142) dMO_comesBack_129 (by decide) ?_
            refine tv_iinc_4 dMO_comesBack_142 (by decide) (nI_1 t) ?_
            refine tv_goto (tgt := 80) dMO_comesBack_145 (by decide) ?_
            exact h9
set_option maxHeartbeats 4000000 in
set_option maxRecDepth 100000 in
theorem ml_comesBack_43 {s : Nat} (hs : s < 144) {K : tcK} : ∀ (n : Nat) (f : Nat) (a : tcS × Bool), tm_I a.1 → f + n = 144 → tc_V (cMO_comesBack, 5, yMO_comesBack.cls, some .boolean, 3, yMO_comesBack.name) K 0 0 (tm_h (tc_up (tm_cf s) n f a).1) 26 [some (.inr (some 0)), some (.inl (nI s)), some (.inl (tc_b2 (tc_up (tm_cf s) n f a).2)), none, none] [] → tc_V (cMO_comesBack, 5, yMO_comesBack.cls, some .boolean, 3, yMO_comesBack.name) K 0 0 (tm_h a.1) 43 [some (.inr (some 0)), some (.inl (nI s)), some (.inl (tc_b2 a.2)), some (.inl (nI f)), none] [] := by
  intro n
  induction n with
  | zero =>
    intro f a hI hf hx
    refine tv_iload_n dMO_comesBack_43 rfl rfl ?_
    refine tv_aload_n dMO_comesBack_44 rfl rfl ?_
    refine gMO_53 rfl dMO_comesBack_45 ?_
    refine lenM_15 dMO_comesBack_48 ?_
    refine tv_icmp_ge (tgt := 154) dMO_comesBack_49 (by decide) (fun c49 => ?_) (fun c49 => absurd (nI_le (a := 144) (b := f) (by omega) (by omega)) c49)
    refine tv_goto (tgt := 26) dMO_comesBack_154 (by decide) ?_
    refine tv_fg_3 ?_
    exact hx
  | succ n ih =>
    intro f a hI hf hx
    refine tv_iload_n dMO_comesBack_43 rfl rfl ?_
    refine tv_aload_n dMO_comesBack_44 rfl rfl ?_
    refine gMO_53 rfl dMO_comesBack_45 ?_
    refine lenM_15 dMO_comesBack_48 ?_
    refine tv_icmp_ge (tgt := 154) dMO_comesBack_49 (by decide) (fun c49 => absurd c49 (nI_ge (a := f) (b := 144) (by omega) (by omega))) (fun c49 => ?_)
    refine tv_iload_n dMO_comesBack_52 rfl rfl ?_
    refine tv_iload_n dMO_comesBack_53 rfl rfl ?_
    refine tv_icmp_eq (tgt := 66) dMO_comesBack_54 (by decide) (fun c54 => ?_) (fun c54 => ?_)
    · have d66 : f = s ∨ (a.1.2.2.1 4 f).isSome = true := Or.inl ((nI_eq (by omega) (by omega)).mp c54)
      refine tv_aload_n dMO_comesBack_66 rfl rfl ?_
      refine tv_iload_n dMO_comesBack_67 rfl rfl ?_
      refine tv_callV1r kMO_141 (by decide) (Nat.le_of_ble_eq_true rfl) ⟨rfl, rfl⟩ rfl (mm_isPlace a.1 hI (by omega)) ⟨Nat.zero_le _, Nat.zero_le _⟩ dMO_comesBack_68 ?_
      refine tv_if_ne (tgt := 77) dMO_comesBack_71 (by decide) (fun c71 => ?_) (fun c71 => ?_)
      · refine tv_iconst (v := 0) dMO_comesBack_77 (by decide) ?_
        refine tv_ist_4 dMO_comesBack_78 (by decide) ?_
        refine ml_comesBack_80 (by omega) 144 0 a hI rfl ?_
        have e1 : tm_cf s f a = tc_up (tm_cs f) 144 0 a := by unfold tm_cf; rw [if_pos ⟨d66, tc_b2_n.mp c71⟩]
        rw [← e1]
        have hm := tm_cf_mq s f a
        have h9 := ih (f + 1) (tm_cf s f a) (hm.1.I hI) (by omega) hx
        refine tv_iinc_3 dMO_comesBack_148 (by decide) (nI_1 f) ?_
        refine tv_goto (tgt := 43) dMO_comesBack_151 (by decide) ?_
        exact h9
      · have e1 : tm_cf s f a = a := by unfold tm_cf; rw [if_neg (fun q => by have := q.2; rw [tc_b2_0.mp c71] at this; cases this)]
        have h9 := ih (f + 1) a hI (by omega) (by rw [← e1]; exact hx)
        refine tv_goto (tgt := 148) dMO_comesBack_74 (by decide) ?_
        refine tv_iinc_3 dMO_comesBack_148 (by decide) (nI_1 f) ?_
        refine tv_goto (tgt := 43) dMO_comesBack_151 (by decide) ?_
        exact h9
    · have d54 : ¬ f = s := fun q => c54 (by rw [q])
      refine tv_aload_n dMO_comesBack_57 rfl rfl ?_
      refine gMO_53 rfl dMO_comesBack_58 ?_
      refine tv_iload_n dMO_comesBack_61 rfl rfl ?_
      refine ldM_15 dMO_comesBack_62 (by omega) ?_
      refine tv_if_eq (tgt := 148) dMO_comesBack_63 (by decide) (fun c63 => ?_) (fun c63 => ?_)
      · have e1 : tm_cf s f a = a := by unfold tm_cf; rw [if_neg (fun q => q.1.elim d54 (fun q => by rw [tc_b2_0.mp c63] at q; cases q))]
        have h9 := ih (f + 1) a hI (by omega) (by rw [← e1]; exact hx)
        refine tv_iinc_3 dMO_comesBack_148 (by decide) (nI_1 f) ?_
        refine tv_goto (tgt := 43) dMO_comesBack_151 (by decide) ?_
        exact h9
      · have d66 : f = s ∨ (a.1.2.2.1 4 f).isSome = true := Or.inr (tc_b2_n.mp c63)
        refine tv_aload_n dMO_comesBack_66 rfl rfl ?_
        refine tv_iload_n dMO_comesBack_67 rfl rfl ?_
        refine tv_callV1r kMO_141 (by decide) (Nat.le_of_ble_eq_true rfl) ⟨rfl, rfl⟩ rfl (mm_isPlace a.1 hI (by omega)) ⟨Nat.zero_le _, Nat.zero_le _⟩ dMO_comesBack_68 ?_
        refine tv_if_ne (tgt := 77) dMO_comesBack_71 (by decide) (fun c71 => ?_) (fun c71 => ?_)
        · refine tv_iconst (v := 0) dMO_comesBack_77 (by decide) ?_
          refine tv_ist_4 dMO_comesBack_78 (by decide) ?_
          refine ml_comesBack_80 (by omega) 144 0 a hI rfl ?_
          have e1 : tm_cf s f a = tc_up (tm_cs f) 144 0 a := by unfold tm_cf; rw [if_pos ⟨d66, tc_b2_n.mp c71⟩]
          rw [← e1]
          have hm := tm_cf_mq s f a
          have h9 := ih (f + 1) (tm_cf s f a) (hm.1.I hI) (by omega) hx
          refine tv_iinc_3 dMO_comesBack_148 (by decide) (nI_1 f) ?_
          refine tv_goto (tgt := 43) dMO_comesBack_151 (by decide) ?_
          exact h9
        · have e1 : tm_cf s f a = a := by unfold tm_cf; rw [if_neg (fun q => by have := q.2; rw [tc_b2_0.mp c71] at this; cases this)]
          have h9 := ih (f + 1) a hI (by omega) (by rw [← e1]; exact hx)
          refine tv_goto (tgt := 148) dMO_comesBack_74 (by decide) ?_
          refine tv_iinc_3 dMO_comesBack_148 (by decide) (nI_1 f) ?_
          refine tv_goto (tgt := 43) dMO_comesBack_151 (by decide) ?_
          exact h9
set_option maxHeartbeats 4000000 in
set_option maxRecDepth 100000 in
theorem ml_comesBack_26 {s : Nat} (hs : s < 144) {K : tcK} : ∀ (n : Nat) (a : tcS × Bool), tm_I a.1 → (a.2 = true → cz (a.1.2.2.1 4) 144 < n) → K.2.1 = some (.inl (tc_b2 ((tm_cb s n a).2.2.1 4 s).isSome)) → K.2.2.1 = tm_h (tm_cb s n a) → tc_V (cMO_comesBack, 5, yMO_comesBack.cls, some .boolean, 3, yMO_comesBack.name) K 0 0 (tm_h a.1) 26 [some (.inr (some 0)), some (.inl (nI s)), some (.inl (tc_b2 a.2)), none, none] [] := by
  intro n
  induction n with
  | zero =>
    intro a hI hz hr hh
    refine tv_iload_n dMO_comesBack_26 rfl rfl ?_
    refine tv_if_eq (tgt := 157) dMO_comesBack_27 (by decide) (fun c27 => ?_) (fun c27 => absurd (hz (tc_b2_n.mp c27)) (by omega))
    refine tv_aload_n dMO_comesBack_157 rfl rfl ?_
    refine gMO_53 rfl dMO_comesBack_158 ?_
    refine tv_iload_n dMO_comesBack_161 rfl rfl ?_
    refine ldM_15 dMO_comesBack_162 hs ?_
    exact tv_iret dMO_comesBack_163 rfl (by cases (a.1.2.2.1 4 s).isSome <;> rfl) hr hh
  | succ n ih =>
    intro a hI hz hr hh
    refine tv_iload_n dMO_comesBack_26 rfl rfl ?_
    refine tv_if_eq (tgt := 157) dMO_comesBack_27 (by decide) (fun c27 => ?_) (fun c27 => ?_)
    · have e1 : tm_cb s (n + 1) a = a.1 := by rw [tm_cb, if_neg (fun q => by have := q.1; rw [tc_b2_0.mp c27] at this; cases this)]
      refine tv_aload_n dMO_comesBack_157 rfl rfl ?_
      refine gMO_53 rfl dMO_comesBack_158 ?_
      refine tv_iload_n dMO_comesBack_161 rfl rfl ?_
      refine ldM_15 dMO_comesBack_162 hs ?_
      exact tv_iret dMO_comesBack_163 rfl (by cases (a.1.2.2.1 4 s).isSome <;> rfl) (by rw [hr, e1]) (by rw [hh, e1])
    · refine tv_aload_n dMO_comesBack_30 rfl rfl ?_
      refine gMO_53 rfl dMO_comesBack_31 ?_
      refine tv_iload_n dMO_comesBack_34 rfl rfl ?_
      refine ldM_15 dMO_comesBack_35 hs ?_
      refine tv_if_ne (tgt := 157) dMO_comesBack_36 (by decide) (fun c36 => ?_) (fun c36 => ?_)
      · have e1 : tm_cb s (n + 1) a = a.1 := by rw [tm_cb, if_neg (fun q => by have := q.2; rw [tc_b2_n.mp c36] at this; cases this)]
        refine tv_aload_n dMO_comesBack_157 rfl rfl ?_
        refine gMO_53 rfl dMO_comesBack_158 ?_
        refine tv_iload_n dMO_comesBack_161 rfl rfl ?_
        refine ldM_15 dMO_comesBack_162 hs ?_
        exact tv_iret dMO_comesBack_163 rfl (by cases (a.1.2.2.1 4 s).isSome <;> rfl) (by rw [hr, e1]) (by rw [hh, e1])
      · refine tv_iconst (v := 0) dMO_comesBack_39 (by decide) ?_
        refine tv_istN_2 dMO_comesBack_40 (by decide) ?_
        refine tv_iconst (v := 0) dMO_comesBack_41 (by decide) ?_
        refine tv_istN_3 dMO_comesBack_42 (by decide) ?_
        refine ml_comesBack_43 hs 144 0 (a.1, false) hI rfl ?_
        have hm := tm_cf_up s 144 0 (a.1, false)
        have e1 : tm_cb s (n + 1) a = tm_cb s n (tm_cp s a.1) := by rw [tm_cb, if_pos ⟨tc_b2_n.mp c27, tc_b2_0.mp c36⟩]
        exact ih (tm_cp s a.1) (hm.1.I hI) (fun q => by
          have h1 := hz (tc_b2_n.mp c27)
          rcases hm.2.2 q with q2 | q2
          · cases q2
          · have q3 : cz ((tm_cp s a.1).1.2.2.1 4) 144 < cz (a.1.2.2.1 4) 144 := q2
            omega) (by rw [hr, e1]) (by rw [hh, e1])
set_option maxHeartbeats 4000000 in
set_option maxRecDepth 100000 in
theorem mm_comesBack (τ : tcS) (hI : tm_I τ) {s : Nat} (hs : s < 144) : tc_M yMO_comesBack cMO_comesBack 5 (some .boolean) 3 [.inr (some 0), .inl (nI s)] (tm_h τ, some (.inl (tc_b2 ((tm_come s τ).2.2.1 4 s).isSome)), tm_h (tm_come s τ), 0, 0) := by
  refine tc_met (by decide) (Nat.le_of_ble_eq_true rfl) (Nat.le_of_eq tm_len) rfl ?_
  refine tv_iconst (v := 0) dMO_comesBack_0 (by decide) ?_
  refine tv_istN_2 dMO_comesBack_1 (by decide) ?_
  refine ml_comesBack_2 144 0 τ rfl ?_
  refine tv_iconst (v := 1) dMO_comesBack_24 (by decide) ?_
  refine tv_istN_2 dMO_comesBack_25 (by decide) ?_
  exact ml_comesBack_26 hs 145 (tc_up tm_clm 144 0 τ, true) ((tm_clm_sq 144 0 τ).I hI) (fun _ => Nat.lt_of_le_of_lt (cz_le _ 144) (by decide)) rfl rfl
end
