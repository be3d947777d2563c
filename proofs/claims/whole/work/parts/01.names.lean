-- ===== PART A: goes FIRST, ahead of the names: the tables' words, and 'selects' of the private methods out of them =====
/-- a private method of a class that the tables say can be made, by its rows of tables_1 -/
def lw_okq (q : MethodName × Nat) : Prop := (q.1.cls ≠ "java/lang/invoke/MethodHandle" ∧ q.1.cls ≠ "java/lang/invoke/VarHandle") ∧ Cond.instantiable q.1.cls q.2 ∈ tables_1 ∧ Cond.privateMethod q.1 ∈ tables_1 ∧ Cond.instanceMethod q.1 ∈ tables_1
theorem lw_p0 : lw_okq (⟨"ToolChoice", "isTool", "(I)Z"⟩, 19) := ⟨⟨by decide +kernel, by decide +kernel⟩, List.mem_of_getElem? (i := 7) (by decide +kernel), List.mem_of_getElem? (i := 125) (by decide +kernel), List.mem_of_getElem? (i := 126) (by decide +kernel)⟩
theorem lw_p1 : lw_okq (⟨"ToolChoice", "placeOf", "(I)I"⟩, 19) := ⟨⟨by decide +kernel, by decide +kernel⟩, List.mem_of_getElem? (i := 7) (by decide +kernel), List.mem_of_getElem? (i := 129) (by decide +kernel), List.mem_of_getElem? (i := 130) (by decide +kernel)⟩
theorem lw_p2 : lw_okq (⟨"ToolChoice$AskedKinds", "put", "(IIZ)V"⟩, 4) := ⟨⟨by decide +kernel, by decide +kernel⟩, List.mem_of_getElem? (i := 15) (by decide +kernel), List.mem_of_getElem? (i := 144) (by decide +kernel), List.mem_of_getElem? (i := 145) (by decide +kernel)⟩
theorem lw_p3 : lw_okq (⟨"ToolChoice$AskedKinds", "find", "(I)I"⟩, 4) := ⟨⟨by decide +kernel, by decide +kernel⟩, List.mem_of_getElem? (i := 15) (by decide +kernel), List.mem_of_getElem? (i := 148) (by decide +kernel), List.mem_of_getElem? (i := 149) (by decide +kernel)⟩
theorem lw_p4 : lw_okq (⟨"ToolChoice$AskedKinds", "remove", "(I)Z"⟩, 4) := ⟨⟨by decide +kernel, by decide +kernel⟩, List.mem_of_getElem? (i := 15) (by decide +kernel), List.mem_of_getElem? (i := 156) (by decide +kernel), List.mem_of_getElem? (i := 157) (by decide +kernel)⟩
theorem lw_p5 : lw_okq (⟨"ToolChoice", "isPlatform", "(I)Z"⟩, 19) := ⟨⟨by decide +kernel, by decide +kernel⟩, List.mem_of_getElem? (i := 7) (by decide +kernel), List.mem_of_getElem? (i := 168) (by decide +kernel), List.mem_of_getElem? (i := 169) (by decide +kernel)⟩
theorem lw_p6 : lw_okq (⟨"ToolChoice", "settleBuilt", "()V"⟩, 19) := ⟨⟨by decide +kernel, by decide +kernel⟩, List.mem_of_getElem? (i := 7) (by decide +kernel), List.mem_of_getElem? (i := 172) (by decide +kernel), List.mem_of_getElem? (i := 173) (by decide +kernel)⟩
theorem lw_p7 : lw_okq (⟨"ToolChoice", "platformsHaving", "(I)I"⟩, 19) := ⟨⟨by decide +kernel, by decide +kernel⟩, List.mem_of_getElem? (i := 7) (by decide +kernel), List.mem_of_getElem? (i := 176) (by decide +kernel), List.mem_of_getElem? (i := 177) (by decide +kernel)⟩
theorem lw_p8 : lw_okq (⟨"ToolChoice", "growBuilt", "()Z"⟩, 19) := ⟨⟨by decide +kernel, by decide +kernel⟩, List.mem_of_getElem? (i := 7) (by decide +kernel), List.mem_of_getElem? (i := 180) (by decide +kernel), List.mem_of_getElem? (i := 181) (by decide +kernel)⟩
theorem lw_p9 : lw_okq (⟨"ToolChoice", "platformsWithSupplies", "(I)I"⟩, 19) := ⟨⟨by decide +kernel, by decide +kernel⟩, List.mem_of_getElem? (i := 7) (by decide +kernel), List.mem_of_getElem? (i := 184) (by decide +kernel), List.mem_of_getElem? (i := 185) (by decide +kernel)⟩
theorem lw_p10 : lw_okq (⟨"ToolChoice$RowList", "clear", "()V"⟩, 2) := ⟨⟨by decide +kernel, by decide +kernel⟩, List.mem_of_getElem? (i := 36) (by decide +kernel), List.mem_of_getElem? (i := 188) (by decide +kernel), List.mem_of_getElem? (i := 189) (by decide +kernel)⟩
theorem lw_p11 : lw_okq (⟨"ToolChoice", "takeTools", "(II)Z"⟩, 19) := ⟨⟨by decide +kernel, by decide +kernel⟩, List.mem_of_getElem? (i := 7) (by decide +kernel), List.mem_of_getElem? (i := 192) (by decide +kernel), List.mem_of_getElem? (i := 193) (by decide +kernel)⟩
theorem lw_p12 : lw_okq (⟨"ToolChoice$AskedKinds", "size", "()I"⟩, 4) := ⟨⟨by decide +kernel, by decide +kernel⟩, List.mem_of_getElem? (i := 15) (by decide +kernel), List.mem_of_getElem? (i := 196) (by decide +kernel), List.mem_of_getElem? (i := 197) (by decide +kernel)⟩
theorem lw_p13 : lw_okq (⟨"ToolChoice$AskedKinds", "kindAt", "(I)I"⟩, 4) := ⟨⟨by decide +kernel, by decide +kernel⟩, List.mem_of_getElem? (i := 15) (by decide +kernel), List.mem_of_getElem? (i := 200) (by decide +kernel), List.mem_of_getElem? (i := 201) (by decide +kernel)⟩
theorem lw_p14 : lw_okq (⟨"ToolChoice", "firstGood", "(III)I"⟩, 19) := ⟨⟨by decide +kernel, by decide +kernel⟩, List.mem_of_getElem? (i := 7) (by decide +kernel), List.mem_of_getElem? (i := 204) (by decide +kernel), List.mem_of_getElem? (i := 205) (by decide +kernel)⟩
theorem lw_p15 : lw_okq (⟨"ToolChoice", "whyNot", "(III)I"⟩, 19) := ⟨⟨by decide +kernel, by decide +kernel⟩, List.mem_of_getElem? (i := 7) (by decide +kernel), List.mem_of_getElem? (i := 208) (by decide +kernel), List.mem_of_getElem? (i := 209) (by decide +kernel)⟩
def lw_privs_1 : List (MethodName × Nat) := [(⟨"ToolChoice", "isTool", "(I)Z"⟩, 19), (⟨"ToolChoice", "placeOf", "(I)I"⟩, 19), (⟨"ToolChoice$AskedKinds", "put", "(IIZ)V"⟩, 4), (⟨"ToolChoice$AskedKinds", "find", "(I)I"⟩, 4), (⟨"ToolChoice$AskedKinds", "remove", "(I)Z"⟩, 4), (⟨"ToolChoice", "isPlatform", "(I)Z"⟩, 19), (⟨"ToolChoice", "settleBuilt", "()V"⟩, 19), (⟨"ToolChoice", "platformsHaving", "(I)I"⟩, 19), (⟨"ToolChoice", "growBuilt", "()Z"⟩, 19), (⟨"ToolChoice", "platformsWithSupplies", "(I)I"⟩, 19), (⟨"ToolChoice$RowList", "clear", "()V"⟩, 2), (⟨"ToolChoice", "takeTools", "(II)Z"⟩, 19), (⟨"ToolChoice$AskedKinds", "size", "()I"⟩, 4), (⟨"ToolChoice$AskedKinds", "kindAt", "(I)I"⟩, 4), (⟨"ToolChoice", "firstGood", "(III)I"⟩, 19), (⟨"ToolChoice", "whyNot", "(III)I"⟩, 19)]
theorem lw_r1 : ∀ q ∈ lw_privs_1, lw_okq q := List.forall_mem_cons.mpr ⟨lw_p0, List.forall_mem_cons.mpr ⟨lw_p1, List.forall_mem_cons.mpr ⟨lw_p2, List.forall_mem_cons.mpr ⟨lw_p3, List.forall_mem_cons.mpr ⟨lw_p4, List.forall_mem_cons.mpr ⟨lw_p5, List.forall_mem_cons.mpr ⟨lw_p6, List.forall_mem_cons.mpr ⟨lw_p7, List.forall_mem_cons.mpr ⟨lw_p8, List.forall_mem_cons.mpr ⟨lw_p9, List.forall_mem_cons.mpr ⟨lw_p10, List.forall_mem_cons.mpr ⟨lw_p11, List.forall_mem_cons.mpr ⟨lw_p12, List.forall_mem_cons.mpr ⟨lw_p13, List.forall_mem_cons.mpr ⟨lw_p14, List.forall_mem_cons.mpr ⟨lw_p15, fun _ h => absurd h List.not_mem_nil⟩⟩⟩⟩⟩⟩⟩⟩⟩⟩⟩⟩⟩⟩⟩⟩
theorem lw_p16 : lw_okq (⟨"ToolChoice$AskedKinds", "leastVersion", "(I)I"⟩, 4) := ⟨⟨by decide +kernel, by decide +kernel⟩, List.mem_of_getElem? (i := 15) (by decide +kernel), List.mem_of_getElem? (i := 212) (by decide +kernel), List.mem_of_getElem? (i := 213) (by decide +kernel)⟩
theorem lw_p17 : lw_okq (⟨"ToolChoice", "lackOf", "(IIII)I"⟩, 19) := ⟨⟨by decide +kernel, by decide +kernel⟩, List.mem_of_getElem? (i := 7) (by decide +kernel), List.mem_of_getElem? (i := 216) (by decide +kernel), List.mem_of_getElem? (i := 217) (by decide +kernel)⟩
theorem lw_p18 : lw_okq (⟨"ToolChoice", "lowestUnsupplied", "(II)I"⟩, 19) := ⟨⟨by decide +kernel, by decide +kernel⟩, List.mem_of_getElem? (i := 7) (by decide +kernel), List.mem_of_getElem? (i := 223) (by decide +kernel), List.mem_of_getElem? (i := 224) (by decide +kernel)⟩
theorem lw_p19 : lw_okq (⟨"ToolChoice$RowList", "add", "(IIII)V"⟩, 2) := ⟨⟨by decide +kernel, by decide +kernel⟩, List.mem_of_getElem? (i := 36) (by decide +kernel), List.mem_of_getElem? (i := 227) (by decide +kernel), List.mem_of_getElem? (i := 228) (by decide +kernel)⟩
theorem lw_p20 : lw_okq (⟨"ToolChoice$AskedKinds", "isNeeded", "(I)Z"⟩, 4) := ⟨⟨by decide +kernel, by decide +kernel⟩, List.mem_of_getElem? (i := 15) (by decide +kernel), List.mem_of_getElem? (i := 231) (by decide +kernel), List.mem_of_getElem? (i := 232) (by decide +kernel)⟩
theorem lw_p21 : lw_okq (⟨"ToolChoice$RowList", "size", "()I"⟩, 2) := ⟨⟨by decide +kernel, by decide +kernel⟩, List.mem_of_getElem? (i := 36) (by decide +kernel), List.mem_of_getElem? (i := 243) (by decide +kernel), List.mem_of_getElem? (i := 244) (by decide +kernel)⟩
theorem lw_p22 : lw_okq (⟨"ToolChoice$RowList", "cell", "(II)I"⟩, 2) := ⟨⟨by decide +kernel, by decide +kernel⟩, List.mem_of_getElem? (i := 36) (by decide +kernel), List.mem_of_getElem? (i := 251) (by decide +kernel), List.mem_of_getElem? (i := 252) (by decide +kernel)⟩
theorem lw_p23 : lw_okq (⟨"ToolChoice", "settleLeads", "()V"⟩, 19) := ⟨⟨by decide +kernel, by decide +kernel⟩, List.mem_of_getElem? (i := 7) (by decide +kernel), List.mem_of_getElem? (i := 263) (by decide +kernel), List.mem_of_getElem? (i := 264) (by decide +kernel)⟩
theorem lw_p24 : lw_okq (⟨"ToolChoice", "stepsFrom", "(I)I"⟩, 19) := ⟨⟨by decide +kernel, by decide +kernel⟩, List.mem_of_getElem? (i := 7) (by decide +kernel), List.mem_of_getElem? (i := 267) (by decide +kernel), List.mem_of_getElem? (i := 268) (by decide +kernel)⟩
theorem lw_p25 : lw_okq (⟨"ToolChoice", "unbuiltOn", "(I)I"⟩, 19) := ⟨⟨by decide +kernel, by decide +kernel⟩, List.mem_of_getElem? (i := 7) (by decide +kernel), List.mem_of_getElem? (i := 271) (by decide +kernel), List.mem_of_getElem? (i := 272) (by decide +kernel)⟩
theorem lw_p26 : lw_okq (⟨"ToolChoiceModel", "isTool", "(I)Z"⟩, 25) := ⟨⟨by decide +kernel, by decide +kernel⟩, List.mem_of_getElem? (i := 275) (by decide +kernel), List.mem_of_getElem? (i := 372) (by decide +kernel), List.mem_of_getElem? (i := 373) (by decide +kernel)⟩
theorem lw_p27 : lw_okq (⟨"ToolChoiceModel", "wants", "(II)Z"⟩, 25) := ⟨⟨by decide +kernel, by decide +kernel⟩, List.mem_of_getElem? (i := 275) (by decide +kernel), List.mem_of_getElem? (i := 380) (by decide +kernel), List.mem_of_getElem? (i := 381) (by decide +kernel)⟩
theorem lw_p28 : lw_okq (⟨"ToolChoiceModel", "place", "(I)I"⟩, 25) := ⟨⟨by decide +kernel, by decide +kernel⟩, List.mem_of_getElem? (i := 275) (by decide +kernel), List.mem_of_getElem? (i := 388) (by decide +kernel), List.mem_of_getElem? (i := 389) (by decide +kernel)⟩
theorem lw_p29 : lw_okq (⟨"ToolChoiceModel", "isPlatform", "(I)Z"⟩, 25) := ⟨⟨by decide +kernel, by decide +kernel⟩, List.mem_of_getElem? (i := 275) (by decide +kernel), List.mem_of_getElem? (i := 404) (by decide +kernel), List.mem_of_getElem? (i := 405) (by decide +kernel)⟩
theorem lw_p30 : lw_okq (⟨"ToolChoiceModel", "build", "()V"⟩, 25) := ⟨⟨by decide +kernel, by decide +kernel⟩, List.mem_of_getElem? (i := 275) (by decide +kernel), List.mem_of_getElem? (i := 408) (by decide +kernel), List.mem_of_getElem? (i := 409) (by decide +kernel)⟩
theorem lw_p31 : lw_okq (⟨"ToolChoiceModel", "runsOn", "(II)Z"⟩, 25) := ⟨⟨by decide +kernel, by decide +kernel⟩, List.mem_of_getElem? (i := 275) (by decide +kernel), List.mem_of_getElem? (i := 415) (by decide +kernel), List.mem_of_getElem? (i := 416) (by decide +kernel)⟩
def lw_privs_2 : List (MethodName × Nat) := [(⟨"ToolChoice$AskedKinds", "leastVersion", "(I)I"⟩, 4), (⟨"ToolChoice", "lackOf", "(IIII)I"⟩, 19), (⟨"ToolChoice", "lowestUnsupplied", "(II)I"⟩, 19), (⟨"ToolChoice$RowList", "add", "(IIII)V"⟩, 2), (⟨"ToolChoice$AskedKinds", "isNeeded", "(I)Z"⟩, 4), (⟨"ToolChoice$RowList", "size", "()I"⟩, 2), (⟨"ToolChoice$RowList", "cell", "(II)I"⟩, 2), (⟨"ToolChoice", "settleLeads", "()V"⟩, 19), (⟨"ToolChoice", "stepsFrom", "(I)I"⟩, 19), (⟨"ToolChoice", "unbuiltOn", "(I)I"⟩, 19), (⟨"ToolChoiceModel", "isTool", "(I)Z"⟩, 25), (⟨"ToolChoiceModel", "wants", "(II)Z"⟩, 25), (⟨"ToolChoiceModel", "place", "(I)I"⟩, 25), (⟨"ToolChoiceModel", "isPlatform", "(I)Z"⟩, 25), (⟨"ToolChoiceModel", "build", "()V"⟩, 25), (⟨"ToolChoiceModel", "runsOn", "(II)Z"⟩, 25)]
theorem lw_r2 : ∀ q ∈ lw_privs_2, lw_okq q := List.forall_mem_cons.mpr ⟨lw_p16, List.forall_mem_cons.mpr ⟨lw_p17, List.forall_mem_cons.mpr ⟨lw_p18, List.forall_mem_cons.mpr ⟨lw_p19, List.forall_mem_cons.mpr ⟨lw_p20, List.forall_mem_cons.mpr ⟨lw_p21, List.forall_mem_cons.mpr ⟨lw_p22, List.forall_mem_cons.mpr ⟨lw_p23, List.forall_mem_cons.mpr ⟨lw_p24, List.forall_mem_cons.mpr ⟨lw_p25, List.forall_mem_cons.mpr ⟨lw_p26, List.forall_mem_cons.mpr ⟨lw_p27, List.forall_mem_cons.mpr ⟨lw_p28, List.forall_mem_cons.mpr ⟨lw_p29, List.forall_mem_cons.mpr ⟨lw_p30, List.forall_mem_cons.mpr ⟨lw_p31, fun _ h => absurd h List.not_mem_nil⟩⟩⟩⟩⟩⟩⟩⟩⟩⟩⟩⟩⟩⟩⟩⟩
theorem lw_p32 : lw_okq (⟨"ToolChoiceModel", "lacking", "(II)I"⟩, 25) := ⟨⟨by decide +kernel, by decide +kernel⟩, List.mem_of_getElem? (i := 275) (by decide +kernel), List.mem_of_getElem? (i := 419) (by decide +kernel), List.mem_of_getElem? (i := 420) (by decide +kernel)⟩
theorem lw_p33 : lw_okq (⟨"ToolChoiceModel", "missing", "(II)I"⟩, 25) := ⟨⟨by decide +kernel, by decide +kernel⟩, List.mem_of_getElem? (i := 275) (by decide +kernel), List.mem_of_getElem? (i := 423) (by decide +kernel), List.mem_of_getElem? (i := 424) (by decide +kernel)⟩
theorem lw_p34 : lw_okq (⟨"ToolChoiceModel", "isThere", "(II)Z"⟩, 25) := ⟨⟨by decide +kernel, by decide +kernel⟩, List.mem_of_getElem? (i := 275) (by decide +kernel), List.mem_of_getElem? (i := 427) (by decide +kernel), List.mem_of_getElem? (i := 428) (by decide +kernel)⟩
theorem lw_p35 : lw_okq (⟨"ToolChoiceModel", "makesFor", "(II)Z"⟩, 25) := ⟨⟨by decide +kernel, by decide +kernel⟩, List.mem_of_getElem? (i := 275) (by decide +kernel), List.mem_of_getElem? (i := 431) (by decide +kernel), List.mem_of_getElem? (i := 432) (by decide +kernel)⟩
theorem lw_p36 : lw_okq (⟨"ToolChoiceModel", "tryOn", "(II)Z"⟩, 25) := ⟨⟨by decide +kernel, by decide +kernel⟩, List.mem_of_getElem? (i := 275) (by decide +kernel), List.mem_of_getElem? (i := 439) (by decide +kernel), List.mem_of_getElem? (i := 440) (by decide +kernel)⟩
theorem lw_p37 : lw_okq (⟨"ToolChoiceModel", "look", "(III)I"⟩, 25) := ⟨⟨by decide +kernel, by decide +kernel⟩, List.mem_of_getElem? (i := 275) (by decide +kernel), List.mem_of_getElem? (i := 443) (by decide +kernel), List.mem_of_getElem? (i := 444) (by decide +kernel)⟩
theorem lw_p38 : lw_okq (⟨"ToolChoiceModel", "why", "(III)I"⟩, 25) := ⟨⟨by decide +kernel, by decide +kernel⟩, List.mem_of_getElem? (i := 275) (by decide +kernel), List.mem_of_getElem? (i := 447) (by decide +kernel), List.mem_of_getElem? (i := 448) (by decide +kernel)⟩
theorem lw_p39 : lw_okq (⟨"ToolChoiceModel", "tell", "(IIII)V"⟩, 25) := ⟨⟨by decide +kernel, by decide +kernel⟩, List.mem_of_getElem? (i := 275) (by decide +kernel), List.mem_of_getElem? (i := 451) (by decide +kernel), List.mem_of_getElem? (i := 452) (by decide +kernel)⟩
theorem lw_p40 : lw_okq (⟨"ToolChoiceModel", "isRing", "(I)Z"⟩, 25) := ⟨⟨by decide +kernel, by decide +kernel⟩, List.mem_of_getElem? (i := 275) (by decide +kernel), List.mem_of_getElem? (i := 471) (by decide +kernel), List.mem_of_getElem? (i := 472) (by decide +kernel)⟩
theorem lw_p41 : lw_okq (⟨"ToolChoiceModel", "comesBack", "(I)Z"⟩, 25) := ⟨⟨by decide +kernel, by decide +kernel⟩, List.mem_of_getElem? (i := 275) (by decide +kernel), List.mem_of_getElem? (i := 475) (by decide +kernel), List.mem_of_getElem? (i := 476) (by decide +kernel)⟩
theorem lw_p42 : lw_okq (⟨"ToolChoiceModel", "isPlace", "(I)Z"⟩, 25) := ⟨⟨by decide +kernel, by decide +kernel⟩, List.mem_of_getElem? (i := 275) (by decide +kernel), List.mem_of_getElem? (i := 479) (by decide +kernel), List.mem_of_getElem? (i := 480) (by decide +kernel)⟩
theorem lw_p43 : lw_okq (⟨"ToolChoiceModel", "leads", "(II)Z"⟩, 25) := ⟨⟨by decide +kernel, by decide +kernel⟩, List.mem_of_getElem? (i := 275) (by decide +kernel), List.mem_of_getElem? (i := 483) (by decide +kernel), List.mem_of_getElem? (i := 484) (by decide +kernel)⟩
def lw_privs_3 : List (MethodName × Nat) := [(⟨"ToolChoiceModel", "lacking", "(II)I"⟩, 25), (⟨"ToolChoiceModel", "missing", "(II)I"⟩, 25), (⟨"ToolChoiceModel", "isThere", "(II)Z"⟩, 25), (⟨"ToolChoiceModel", "makesFor", "(II)Z"⟩, 25), (⟨"ToolChoiceModel", "tryOn", "(II)Z"⟩, 25), (⟨"ToolChoiceModel", "look", "(III)I"⟩, 25), (⟨"ToolChoiceModel", "why", "(III)I"⟩, 25), (⟨"ToolChoiceModel", "tell", "(IIII)V"⟩, 25), (⟨"ToolChoiceModel", "isRing", "(I)Z"⟩, 25), (⟨"ToolChoiceModel", "comesBack", "(I)Z"⟩, 25), (⟨"ToolChoiceModel", "isPlace", "(I)Z"⟩, 25), (⟨"ToolChoiceModel", "leads", "(II)Z"⟩, 25)]
theorem lw_r3 : ∀ q ∈ lw_privs_3, lw_okq q := List.forall_mem_cons.mpr ⟨lw_p32, List.forall_mem_cons.mpr ⟨lw_p33, List.forall_mem_cons.mpr ⟨lw_p34, List.forall_mem_cons.mpr ⟨lw_p35, List.forall_mem_cons.mpr ⟨lw_p36, List.forall_mem_cons.mpr ⟨lw_p37, List.forall_mem_cons.mpr ⟨lw_p38, List.forall_mem_cons.mpr ⟨lw_p39, List.forall_mem_cons.mpr ⟨lw_p40, List.forall_mem_cons.mpr ⟨lw_p41, List.forall_mem_cons.mpr ⟨lw_p42, List.forall_mem_cons.mpr ⟨lw_p43, fun _ h => absurd h List.not_mem_nil⟩⟩⟩⟩⟩⟩⟩⟩⟩⟩⟩⟩
def lw_privs : List (MethodName × Nat) := lw_privs_1 ++ (lw_privs_2 ++ (lw_privs_3))
def lw_tbl : List Cond := k2_sels lw_privs ++ tables_1
theorem lw_privs_ok : ∀ q ∈ lw_privs, lw_okq q := by
  show ∀ q ∈ lw_privs_1 ++ (lw_privs_2 ++ (lw_privs_3)), lw_okq q
  exact List.forall_mem_append.mpr ⟨lw_r1, List.forall_mem_append.mpr ⟨lw_r2, lw_r3⟩⟩
def RAK : String := "ToolChoice$AskedKinds"
def TAK : u_T := fun k => match k with
  | 0 => ("ToolChoice$AskedKinds", "kinds", "[I", true)
  | 1 => ("ToolChoice$AskedKinds", "versions", "[I", true)
  | 2 => ("ToolChoice$AskedKinds", "needed", "[Z", true)
  | _ => ("ToolChoice$AskedKinds", "count", "I", false)
def tyAK : Nat → FieldType := fun k => match k with
  | 0 => .array .int
  | 1 => .array .int
  | 2 => .array .boolean
  | _ => .int
theorem nmAK : ∀ a, a < 4 → ∀ b, b < 4 → a ≠ b → (TAK a).2.1 ≠ (TAK b).2.1 := by decide +kernel
theorem okAK : ∀ k, k < 4 → parseFieldDescriptor (TAK k).2.2.1 = some (tyAK k) := by decide +kernel
def RRO : String := "ToolChoice$RowList"
def TRO : u_T := fun k => match k with
  | 0 => ("ToolChoice$RowList", "cells", "[I", true)
  | _ => ("ToolChoice$RowList", "count", "I", false)
def tyRO : Nat → FieldType := fun k => match k with
  | 0 => .array .int
  | _ => .int
theorem nmRO : ∀ a, a < 2 → ∀ b, b < 2 → a ≠ b → (TRO a).2.1 ≠ (TRO b).2.1 := by decide +kernel
theorem okRO : ∀ k, k < 2 → parseFieldDescriptor (TRO k).2.2.1 = some (tyRO k) := by decide +kernel
def RTC : String := "ToolChoice"
def TTC : u_T := fun k => match k with
  | 0 => ("ToolChoice", "platformHas", "[I", true)
  | 1 => ("ToolChoice", "platformCount", "I", false)
  | 2 => ("ToolChoice", "toolKind", "[I", true)
  | 3 => ("ToolChoice", "runsWants", "[I", true)
  | 4 => ("ToolChoice", "makesWants", "[I", true)
  | 5 => ("ToolChoice", "toolVersion", "[I", true)
  | 6 => ("ToolChoice", "neededKinds", "[I", true)
  | 7 => ("ToolChoice", "toolAtPlace", "[I", true)
  | 8 => ("ToolChoice", "toolCount", "I", false)
  | 9 => ("ToolChoice", "needCount", "I", false)
  | 10 => ("ToolChoice", "asked", "LToolChoice$AskedKinds;", true)
  | 11 => ("ToolChoice", "forcedTool", "[I", true)
  | 12 => ("ToolChoice", "takenTool", "[I", true)
  | 13 => ("ToolChoice", "told", "LToolChoice$RowList;", true)
  | 14 => ("ToolChoice", "runsOn", "[I", true)
  | 15 => ("ToolChoice", "makesFor", "[I", true)
  | 16 => ("ToolChoice", "builtOn", "[I", true)
  | 17 => ("ToolChoice", "suppliedFor", "[I", true)
  | _ => ("ToolChoice", "leadsTo", "[I", true)
def tyTC : Nat → FieldType := fun k => match k with
  | 0 => .array .int
  | 1 => .int
  | 2 => .array .int
  | 3 => .array .int
  | 4 => .array .int
  | 5 => .array .int
  | 6 => .array .int
  | 7 => .array .int
  | 8 => .int
  | 9 => .int
  | 10 => .object "ToolChoice$AskedKinds"
  | 11 => .array .int
  | 12 => .array .int
  | 13 => .object "ToolChoice$RowList"
  | 14 => .array .int
  | 15 => .array .int
  | 16 => .array .int
  | 17 => .array .int
  | _ => .array .int
theorem nmTC : ∀ a, a < 19 → ∀ b, b < 19 → a ≠ b → (TTC a).2.1 ≠ (TTC b).2.1 := by decide +kernel
theorem okTC : ∀ k, k < 19 → parseFieldDescriptor (TTC k).2.2.1 = some (tyTC k) := by decide +kernel
def RMO : String := "ToolChoiceModel"
def TMO : u_T := fun k => match k with
  | 0 => ("ToolChoiceModel", "code", "I", false)
  | 1 => ("ToolChoiceModel", "platforms", "I", false)
  | 2 => ("ToolChoiceModel", "tools", "I", false)
  | 3 => ("ToolChoiceModel", "needs", "I", false)
  | 4 => ("ToolChoiceModel", "asked", "I", false)
  | 5 => ("ToolChoiceModel", "constraints", "[I", true)
  | 6 => ("ToolChoiceModel", "kind", "[I", true)
  | 7 => ("ToolChoiceModel", "runs", "[I", true)
  | 8 => ("ToolChoiceModel", "makes", "[I", true)
  | 9 => ("ToolChoiceModel", "version", "[I", true)
  | 10 => ("ToolChoiceModel", "order", "[I", true)
  | 11 => ("ToolChoiceModel", "needTool", "[I", true)
  | 12 => ("ToolChoiceModel", "needKind", "[I", true)
  | 13 => ("ToolChoiceModel", "askedKind", "[I", true)
  | 14 => ("ToolChoiceModel", "least", "[I", true)
  | 15 => ("ToolChoiceModel", "forced", "[I", true)
  | 16 => ("ToolChoiceModel", "chosen", "[I", true)
  | 17 => ("ToolChoiceModel", "needed", "[Z", true)
  | 18 => ("ToolChoiceModel", "built", "[Z", true)
  | 19 => ("ToolChoiceModel", "met", "[Z", true)
  | 20 => ("ToolChoiceModel", "rowPlatform", "[I", true)
  | 21 => ("ToolChoiceModel", "rowTool", "[I", true)
  | 22 => ("ToolChoiceModel", "rowWhy", "[I", true)
  | 23 => ("ToolChoiceModel", "rowWith", "[I", true)
  | _ => ("ToolChoiceModel", "rows", "I", false)
def tyMO : Nat → FieldType := fun k => match k with
  | 0 => .int
  | 1 => .int
  | 2 => .int
  | 3 => .int
  | 4 => .int
  | 5 => .array .int
  | 6 => .array .int
  | 7 => .array .int
  | 8 => .array .int
  | 9 => .array .int
  | 10 => .array .int
  | 11 => .array .int
  | 12 => .array .int
  | 13 => .array .int
  | 14 => .array .int
  | 15 => .array .int
  | 16 => .array .int
  | 17 => .array .boolean
  | 18 => .array .boolean
  | 19 => .array .boolean
  | 20 => .array .int
  | 21 => .array .int
  | 22 => .array .int
  | 23 => .array .int
  | _ => .int
theorem nmMO : ∀ a, a < 25 → ∀ b, b < 25 → a ≠ b → (TMO a).2.1 ≠ (TMO b).2.1 := by decide +kernel
theorem okMO : ∀ k, k < 25 → parseFieldDescriptor (TMO k).2.2.1 = some (tyMO k) := by decide +kernel
def RAR : String := "java/util/Arrays"
def RLW : String := "ToolChoiceLaw"
abbrev cTC_init : ByteArray := prog_1_method_1_code
def yTC_init : MethodName := ⟨RTC, "<init>", "()V"⟩
abbrev cAK_init : ByteArray := prog_2_method_1_code
def yAK_init : MethodName := ⟨RAK, "<init>", "()V"⟩
abbrev cRO_init : ByteArray := prog_3_method_1_code
def yRO_init : MethodName := ⟨RRO, "<init>", "()V"⟩
abbrev cAR_fill : ByteArray := prog_6_method_103_code
def yAR_fill : MethodName := ⟨RAR, "fill", "([II)V"⟩
abbrev cTC_platform : ByteArray := prog_1_method_2_code
def yTC_platform : MethodName := ⟨RTC, "platform", "(I)I"⟩
abbrev cTC_tool : ByteArray := prog_1_method_3_code
def yTC_tool : MethodName := ⟨RTC, "tool", "(IIII)I"⟩
abbrev cTC_isKind : ByteArray := prog_1_method_17_code
def yTC_isKind : MethodName := ⟨RTC, "isKind", "(I)Z"⟩
abbrev cTC_order : ByteArray := prog_1_method_4_code
def yTC_order : MethodName := ⟨RTC, "order", "(II)Z"⟩
abbrev cTC_isTool : ByteArray := prog_1_method_16_code
def yTC_isTool : MethodName := ⟨RTC, "isTool", "(I)Z"⟩
abbrev cTC_placeOf : ByteArray := prog_1_method_20_code
def yTC_placeOf : MethodName := ⟨RTC, "placeOf", "(I)I"⟩
abbrev cTC_needs : ByteArray := prog_1_method_5_code
def yTC_needs : MethodName := ⟨RTC, "needs", "(II)Z"⟩
abbrev cTC_hasBit : ByteArray := prog_1_method_18_code
def yTC_hasBit : MethodName := ⟨RTC, "hasBit", "(II)Z"⟩
abbrev cTC_ask : ByteArray := prog_1_method_6_code
def yTC_ask : MethodName := ⟨RTC, "ask", "(IIZ)Z"⟩
abbrev cAK_put : ByteArray := prog_2_method_7_code
def yAK_put : MethodName := ⟨RAK, "put", "(IIZ)V"⟩
abbrev cAK_find : ByteArray := prog_2_method_6_code
def yAK_find : MethodName := ⟨RAK, "find", "(I)I"⟩
abbrev cTC_drop : ByteArray := prog_1_method_7_code
def yTC_drop : MethodName := ⟨RTC, "drop", "(I)Z"⟩
abbrev cAK_remove : ByteArray := prog_2_method_8_code
def yAK_remove : MethodName := ⟨RAK, "remove", "(I)Z"⟩
abbrev cTC_force : ByteArray := prog_1_method_8_code
def yTC_force : MethodName := ⟨RTC, "force", "(II)Z"⟩
abbrev cTC_choose : ByteArray := prog_1_method_9_code
def yTC_choose : MethodName := ⟨RTC, "choose", "(I)I"⟩
abbrev cTC_isPlatform : ByteArray := prog_1_method_15_code
def yTC_isPlatform : MethodName := ⟨RTC, "isPlatform", "(I)Z"⟩
abbrev cTC_settleBuilt : ByteArray := prog_1_method_27_code
def yTC_settleBuilt : MethodName := ⟨RTC, "settleBuilt", "()V"⟩
abbrev cTC_platformsHaving : ByteArray := prog_1_method_26_code
def yTC_platformsHaving : MethodName := ⟨RTC, "platformsHaving", "(I)I"⟩
abbrev cTC_growBuilt : ByteArray := prog_1_method_28_code
def yTC_growBuilt : MethodName := ⟨RTC, "growBuilt", "()Z"⟩
abbrev cTC_platformsWithSupplies : ByteArray := prog_1_method_29_code
def yTC_platformsWithSupplies : MethodName := ⟨RTC, "platformsWithSupplies", "(I)I"⟩
abbrev cRO_clear : ByteArray := prog_3_method_2_code
def yRO_clear : MethodName := ⟨RRO, "clear", "()V"⟩
abbrev cTC_takeTools : ByteArray := prog_1_method_21_code
def yTC_takeTools : MethodName := ⟨RTC, "takeTools", "(II)Z"⟩
abbrev cAK_size : ByteArray := prog_2_method_2_code
def yAK_size : MethodName := ⟨RAK, "size", "()I"⟩
abbrev cAK_kindAt : ByteArray := prog_2_method_3_code
def yAK_kindAt : MethodName := ⟨RAK, "kindAt", "(I)I"⟩
abbrev cTC_firstGood : ByteArray := prog_1_method_22_code
def yTC_firstGood : MethodName := ⟨RTC, "firstGood", "(III)I"⟩
abbrev cTC_whyNot : ByteArray := prog_1_method_23_code
def yTC_whyNot : MethodName := ⟨RTC, "whyNot", "(III)I"⟩
abbrev cAK_leastVersion : ByteArray := prog_2_method_4_code
def yAK_leastVersion : MethodName := ⟨RAK, "leastVersion", "(I)I"⟩
abbrev cTC_lackOf : ByteArray := prog_1_method_24_code
def yTC_lackOf : MethodName := ⟨RTC, "lackOf", "(IIII)I"⟩
abbrev cTC_lowestBit : ByteArray := prog_1_method_19_code
def yTC_lowestBit : MethodName := ⟨RTC, "lowestBit", "(I)I"⟩
abbrev cTC_lowestUnsupplied : ByteArray := prog_1_method_25_code
def yTC_lowestUnsupplied : MethodName := ⟨RTC, "lowestUnsupplied", "(II)I"⟩
abbrev cRO_add : ByteArray := prog_3_method_4_code
def yRO_add : MethodName := ⟨RRO, "add", "(IIII)V"⟩
abbrev cAK_isNeeded : ByteArray := prog_2_method_5_code
def yAK_isNeeded : MethodName := ⟨RAK, "isNeeded", "(I)Z"⟩
abbrev cTC_chosen : ByteArray := prog_1_method_10_code
def yTC_chosen : MethodName := ⟨RTC, "chosen", "(I)I"⟩
abbrev cTC_rows : ByteArray := prog_1_method_11_code
def yTC_rows : MethodName := ⟨RTC, "rows", "()I"⟩
abbrev cRO_size : ByteArray := prog_3_method_3_code
def yRO_size : MethodName := ⟨RRO, "size", "()I"⟩
abbrev cTC_row : ByteArray := prog_1_method_12_code
def yTC_row : MethodName := ⟨RTC, "row", "(II)I"⟩
abbrev cRO_cell : ByteArray := prog_3_method_5_code
def yRO_cell : MethodName := ⟨RRO, "cell", "(II)I"⟩
abbrev cTC_built : ByteArray := prog_1_method_13_code
def yTC_built : MethodName := ⟨RTC, "built", "(II)Z"⟩
abbrev cTC_ring : ByteArray := prog_1_method_14_code
def yTC_ring : MethodName := ⟨RTC, "ring", "(I)I"⟩
abbrev cTC_settleLeads : ByteArray := prog_1_method_30_code
def yTC_settleLeads : MethodName := ⟨RTC, "settleLeads", "()V"⟩
abbrev cTC_stepsFrom : ByteArray := prog_1_method_31_code
def yTC_stepsFrom : MethodName := ⟨RTC, "stepsFrom", "(I)I"⟩
abbrev cTC_unbuiltOn : ByteArray := prog_1_method_32_code
def yTC_unbuiltOn : MethodName := ⟨RTC, "unbuiltOn", "(I)I"⟩
abbrev cMO_init : ByteArray := prog_5_method_1_code
def yMO_init : MethodName := ⟨RMO, "<init>", "()V"⟩
abbrev cMO_platform : ByteArray := prog_5_method_6_code
def yMO_platform : MethodName := ⟨RMO, "platform", "(I)I"⟩
abbrev cMO_tool : ByteArray := prog_5_method_7_code
def yMO_tool : MethodName := ⟨RMO, "tool", "(IIII)I"⟩
abbrev cMO_isKind : ByteArray := prog_5_method_5_code
def yMO_isKind : MethodName := ⟨RMO, "isKind", "(I)Z"⟩
abbrev cMO_order : ByteArray := prog_5_method_8_code
def yMO_order : MethodName := ⟨RMO, "order", "(II)Z"⟩
abbrev cMO_isTool : ByteArray := prog_5_method_4_code
def yMO_isTool : MethodName := ⟨RMO, "isTool", "(I)Z"⟩
abbrev cMO_needs : ByteArray := prog_5_method_10_code
def yMO_needs : MethodName := ⟨RMO, "needs", "(II)Z"⟩
abbrev cMO_wants : ByteArray := prog_5_method_9_code
def yMO_wants : MethodName := ⟨RMO, "wants", "(II)Z"⟩
abbrev cMO_ask : ByteArray := prog_5_method_12_code
def yMO_ask : MethodName := ⟨RMO, "ask", "(IIZ)Z"⟩
abbrev cMO_place : ByteArray := prog_5_method_11_code
def yMO_place : MethodName := ⟨RMO, "place", "(I)I"⟩
abbrev cMO_drop : ByteArray := prog_5_method_13_code
def yMO_drop : MethodName := ⟨RMO, "drop", "(I)Z"⟩
abbrev cMO_force : ByteArray := prog_5_method_14_code
def yMO_force : MethodName := ⟨RMO, "force", "(II)Z"⟩
abbrev cMO_built : ByteArray := prog_5_method_22_code
def yMO_built : MethodName := ⟨RMO, "built", "(II)Z"⟩
abbrev cMO_isPlatform : ByteArray := prog_5_method_3_code
def yMO_isPlatform : MethodName := ⟨RMO, "isPlatform", "(I)Z"⟩
abbrev cMO_build : ByteArray := prog_5_method_21_code
def yMO_build : MethodName := ⟨RMO, "build", "()V"⟩
abbrev cMO_at : ByteArray := prog_5_method_18_code
def yMO_at : MethodName := ⟨RMO, "at", "(II)I"⟩
abbrev cMO_runsOn : ByteArray := prog_5_method_16_code
def yMO_runsOn : MethodName := ⟨RMO, "runsOn", "(II)Z"⟩
abbrev cMO_lacking : ByteArray := prog_5_method_15_code
def yMO_lacking : MethodName := ⟨RMO, "lacking", "(II)I"⟩
abbrev cMO_missing : ByteArray := prog_5_method_20_code
def yMO_missing : MethodName := ⟨RMO, "missing", "(II)I"⟩
abbrev cMO_isThere : ByteArray := prog_5_method_19_code
def yMO_isThere : MethodName := ⟨RMO, "isThere", "(II)Z"⟩
abbrev cMO_makesFor : ByteArray := prog_5_method_17_code
def yMO_makesFor : MethodName := ⟨RMO, "makesFor", "(II)Z"⟩
abbrev cMO_choose : ByteArray := prog_5_method_27_code
def yMO_choose : MethodName := ⟨RMO, "choose", "(I)I"⟩
abbrev cMO_tryOn : ByteArray := prog_5_method_26_code
def yMO_tryOn : MethodName := ⟨RMO, "tryOn", "(II)Z"⟩
abbrev cMO_look : ByteArray := prog_5_method_25_code
def yMO_look : MethodName := ⟨RMO, "look", "(III)I"⟩
abbrev cMO_why : ByteArray := prog_5_method_23_code
def yMO_why : MethodName := ⟨RMO, "why", "(III)I"⟩
abbrev cMO_tell : ByteArray := prog_5_method_24_code
def yMO_tell : MethodName := ⟨RMO, "tell", "(IIII)V"⟩
abbrev cMO_chosen : ByteArray := prog_5_method_28_code
def yMO_chosen : MethodName := ⟨RMO, "chosen", "(I)I"⟩
abbrev cMO_rows : ByteArray := prog_5_method_29_code
def yMO_rows : MethodName := ⟨RMO, "rows", "()I"⟩
abbrev cMO_row : ByteArray := prog_5_method_30_code
def yMO_row : MethodName := ⟨RMO, "row", "(II)I"⟩
abbrev cMO_ring : ByteArray := prog_5_method_35_code
def yMO_ring : MethodName := ⟨RMO, "ring", "(I)I"⟩
abbrev cMO_isRing : ByteArray := prog_5_method_34_code
def yMO_isRing : MethodName := ⟨RMO, "isRing", "(I)Z"⟩
abbrev cMO_comesBack : ByteArray := prog_5_method_33_code
def yMO_comesBack : MethodName := ⟨RMO, "comesBack", "(I)Z"⟩
abbrev cMO_isPlace : ByteArray := prog_5_method_32_code
def yMO_isPlace : MethodName := ⟨RMO, "isPlace", "(I)Z"⟩
abbrev cMO_leads : ByteArray := prog_5_method_31_code
def yMO_leads : MethodName := ⟨RMO, "leads", "(II)Z"⟩
abbrev cLW_law : ByteArray := code
abbrev vwCl : List vw_C := [(RAK, TAK, 4), (RRO, TRO, 2), (RTC, TTC, 19), (RMO, TMO, 25)]
def tc_nest : List (String × Nat × MethodName × String) := [(RTC, 43, yAK_init, RTC), (RTC, 56, yRO_init, RTC), (RTC, 97, yAK_put, RTC), (RTC, 101, yAK_remove, RTC), (RTC, 110, yRO_clear, RTC), (RTC, 127, yAK_size, RTC), (RTC, 128, yAK_kindAt, RTC), (RTC, 149, yAK_leastVersion, RTC), (RTC, 145, yRO_add, RTC), (RTC, 135, yAK_isNeeded, RTC), (RTC, 116, yRO_size, RTC), (RTC, 120, yRO_cell, RTC)]
