section
-- ===== PART A: goes FIRST, ahead of the names: the tables' words, and 'selects' of the private methods out of them =====
/-- a private method of a class that the tables say can be made, by its rows of tables_1 -/
def lw_okq (q : MethodName × Nat) : Prop := (q.1.cls ≠ "java/lang/invoke/MethodHandle" ∧ q.1.cls ≠ "java/lang/invoke/VarHandle") ∧ Cond.instantiable q.1.cls q.2 ∈ tables_1 ∧ Cond.privateMethod q.1 ∈ tables_1 ∧ Cond.instanceMethod q.1 ∈ tables_1
theorem lw_p0 : lw_okq (⟨"ToolChoice", "isTool", "(I)Z"⟩, 19) := ⟨⟨by decide +kernel, by decide +kernel⟩, List.mem_of_getElem? (i := 7) (by decide +kernel), List.mem_of_getElem? (i := 125) (by decide +kernel), List.mem_of_getElem? (i := 126) (by decide +kernel)⟩
theorem lw_p1 : lw_okq (⟨"ToolChoice", "placeOf", "(I)I"⟩, 19) := ⟨⟨by decide +kernel, by decide +kernel⟩, List.mem_of_getElem? (i := 7) (by decide +kernel), List.mem_of_getElem? (i := 129) (by decide +kernel), List.mem_of_getElem? (i := 130) (by decide +kernel)⟩
theorem lw_p2 : lw_okq (⟨"ToolChoice$AskedKinds", "put", "(IIZ)V"⟩, 4) := ⟨⟨by decide +kernel, by decide +kernel⟩, List.mem_of_getElem? (i := 15) (by decide +kernel), List.mem_of_getElem? (i := 144) (by decide +kernel), List.mem_of_getElem? (i := 145) (by decide +kernel)⟩
theorem lw_p3 : lw_okq (⟨"ToolChoice$AskedKinds", "find", "(I)I"⟩, 4) := ⟨⟨by decide +kernel, by decide +kernel⟩, List.mem_of_getElem? (i := 15) (by decide +kernel), List.mem_of_getElem? (i := 148) (by decide +kernel), List.mem_of_getElem? (i := 149) (by decide +kernel)⟩
theorem lw_p4 : lw_okq (⟨"ToolChoice$AskedKinds", "remove", "(I)Z"⟩, 4) := ⟨⟨by decide +kernel, by decide +kernel⟩, List.mem_of_getElem? (i := 15) (by decide +kernel), List.mem_of_getElem? (i := 156) (by decide +kernel), List.mem_of_getElem? (i := 157) (by decide +kernel)⟩
theorem lw_p5 : lw_okq (⟨"ToolChoice", "isPlatform", "(I)Z"⟩, 19) := ⟨⟨by decide +kernel, by decide +kernel⟩, List.mem_of_getElem? (i := 7) (by decide +kernel), List.mem_of_getElem? (i := 168) (by decide +kernel), List.mem_of_getElem? (i := 169) (by decide +kernel)⟩
theorem lw_p6 : lw_okq (⟨"ToolChoice", "settleBuilt", "()V"⟩, 19) := ⟨⟨by decide +kernel, by decide +kernel⟩, List.mem_of_getElem? (i := 7) (by decide +kernel), List.mem_of_getElem? (i := 172) (by decide +kernel), List.mem_of_getElem? (i := 173) (by decide +kernel)⟩
theorem lw_p7 : lw_okq (⟨"ToolChoice", "platformsHaving", "(I)I"⟩, 19) := ⟨⟨by decide +kernel, by decide +kernel⟩, List.mem_of_getElem? (i := 7) (by decide +kernel), List.mem_of_getElem? (i := 176) (by decide +kernel), List.mem_of_getElem? (i := 177) (by decide +kernel)⟩
theorem lw_p8 : lw_okq (⟨"ToolChoice", "growBuilt", "()Z"⟩, 19) := ⟨⟨by decide +kernel, by decide +kernel⟩, List.mem_of_getElem? (i := 7) (by decide +kernel), List.mem_of_getElem? (i := 180) (by decide +kernel), List.mem_of_getElem? (i := 181) (by decide +kernel)⟩
theorem lw_p9 : lw_okq (⟨"ToolChoice", "platformsWithSupplies", "(I)I"⟩, 19) := ⟨⟨by decide +kernel, by decide +kernel⟩, List.mem_of_getElem? (i := 7) (by decide +kernel), List.mem_of_getElem? (i := 184) (by decide +kernel), List.mem_of_getElem? (i := 185) (by decide +kernel)⟩
theorem lw_p10 : lw_okq (⟨"ToolChoice$RowList", "clear", "()V"⟩, 2) := ⟨⟨by decide +kernel, by decide +kernel⟩, List.mem_of_getElem? (i := 36) (by decide +kernel), List.mem_of_getElem? (i := 188) (by decide +kernel), List.mem_of_getElem? (i := 189) (by decide +kernel)⟩
theorem lw_p11 : lw_okq (⟨"ToolChoice", "takeTools", "(II)Z"⟩, 19) := ⟨⟨by decide +kernel, by decide +kernel⟩, List.mem_of_getElem? (i := 7) (by decide +kernel), List.mem_of_getElem? (i := 192) (by decide +kernel), List.mem_of_getElem? (i := 193) (by decide +kernel)⟩
theorem lw_p12 : lw_okq (⟨"ToolChoice$AskedKinds", "size", "()I"⟩, 4) := ⟨⟨by decide +kernel, by decide +kernel⟩, List.mem_of_getElem? (i := 15) (by decide +kernel), List.mem_of_getElem? (i := 196) (by decide +kernel), List.mem_of_getElem? (i := 197) (by decide +kernel)⟩
theorem lw_p13 : lw_okq (⟨"ToolChoice$AskedKinds", "kindAt", "(I)I"⟩, 4) := ⟨⟨by decide +kernel, by decide +kernel⟩, List.mem_of_getElem? (i := 15) (by decide +kernel), List.mem_of_getElem? (i := 200) (by decide +kernel), List.mem_of_getElem? (i := 201) (by decide +kernel)⟩
theorem lw_p14 : lw_okq (⟨"ToolChoice", "firstGood", "(III)I"⟩, 19) := ⟨⟨by decide +kernel, by decide +kernel⟩, List.mem_of_getElem? (i := 7) (by decide +kernel), List.mem_of_getElem? (i := 204) (by decide +kernel), List.mem_of_getElem? (i := 205) (by decide +kernel)⟩
theorem lw_p15 : lw_okq (⟨"ToolChoice", "whyNot", "(III)I"⟩, 19) := ⟨⟨by decide +kernel, by decide +kernel⟩, List.mem_of_getElem? (i := 7) (by decide +kernel), List.mem_of_getElem? (i := 208) (by decide +kernel), List.mem_of_getElem? (i := 209) (by decide +kernel)⟩
def lw_privs_1 : List (MethodName × Nat) := [(⟨"ToolChoice", "isTool", "(I)Z"⟩, 19), (⟨"ToolChoice", "placeOf", "(I)I"⟩, 19), (⟨"ToolChoice$AskedKinds", "put", "(IIZ)V"⟩, 4), (⟨"ToolChoice$AskedKinds", "find", "(I)I"⟩, 4), (⟨"ToolChoice$AskedKinds", "remove", "(I)Z"⟩, 4), (⟨"ToolChoice", "isPlatform", "(I)Z"⟩, 19), (⟨"ToolChoice", "settleBuilt", "()V"⟩, 19), (⟨"ToolChoice", "platformsHaving", "(I)I"⟩, 19), (⟨"ToolChoice", "growBuilt", "()Z"⟩, 19), (⟨"ToolChoice", "platformsWithSupplies", "(I)I"⟩, 19), (⟨"ToolChoice$RowList", "clear", "()V"⟩, 2), (⟨"ToolChoice", "takeTools", "(II)Z"⟩, 19), (⟨"ToolChoice$AskedKinds", "size", "()I"⟩, 4), (⟨"ToolChoice$AskedKinds", "kindAt", "(I)I"⟩, 4), (⟨"ToolChoice", "firstGood", "(III)I"⟩, 19), (⟨"ToolChoice", "whyNot", "(III)I"⟩, 19)]
theorem lw_r1 : ∀ q ∈ lw_privs_1, lw_okq q := List.forall_mem_cons.mpr ⟨lw_p0, List.forall_mem_cons.mpr ⟨lw_p1, List.forall_mem_cons.mpr ⟨lw_p2, List.forall_mem_cons.mpr ⟨lw_p3, List.forall_mem_cons.mpr ⟨lw_p4, List.forall_mem_cons.mpr ⟨lw_p5, List.forall_mem_cons.mpr ⟨lw_p6, List.forall_mem_cons.mpr ⟨lw_p7, List.forall_mem_cons.mpr ⟨lw_p8, List.forall_mem_cons.mpr ⟨lw_p9, List.forall_mem_cons.mpr ⟨lw_p10, List.forall_mem_cons.mpr ⟨lw_p11, List.forall_mem_cons.mpr ⟨lw_p12, List.forall_mem_cons.mpr ⟨lw_p13, List.forall_mem_cons.mpr ⟨lw_p14, List.forall_mem_cons.mpr ⟨lw_p15, fun _ h => absurd h List.not_mem_nil⟩⟩⟩⟩⟩⟩⟩⟩⟩⟩⟩⟩⟩⟩⟩⟩
theorem lw_p16 : lw_okq (⟨"ToolChoice$AskedKinds", "leastVersion", "(I)I"⟩, 4) := ⟨⟨by decide +kernel, by decide +kernel⟩, List.mem_of_getElem? (i := 15) (by decide +kernel), List.mem_of_getElem? (i := 212) (by decide +kernel), List.mem_of_getElem? (i := 213) (by decide +kernel)⟩
theorem lw_p17 : lw_okq (⟨"ToolChoice", "lackOf", "(IIII)I"⟩, 19) := ⟨⟨by decide +kernel, by decide +kernel⟩, List.mem_of_getElem? (i := 7) (by decide +kernel), List.mem_of_getElem? (i := 216) (by decide +kernel), List.mem_of_getElem? (i := 217) (by decide +kernel)⟩
theorem lw_p18 : lw_okq (⟨"ToolChoice", "lowestUnsupplied", "(II)I"⟩, 19) := ⟨⟨by decide +kernel, by decide +kernel⟩, List.mem_of_getElem? (i := 7) (by decide +kernel), List.mem_of_getElem? (i := 223) (by decide +kernel), List.mem_of_getElem? (i := 224) (by decide +kernel)⟩
theorem lw_p19 : lw_okq (⟨"ToolChoice$RowList", "add", "(IIII)V"⟩, 2) := ⟨⟨by decide +kernel, by decide +kernel⟩, List.mem_of_getElem? (i := 36) (by decide +kernel), List.mem_of_getElem? (i := 227) (by decide +kernel), List.mem_of_getElem? (i := 228) (by decide +kernel)⟩
theorem lw_p20 : lw_okq (⟨"ToolChoice$AskedKinds", "isNeeded", "(I)Z"⟩, 4) := ⟨⟨by decide +kernel, by decide +kernel⟩, List.mem_of_getElem? (i := 15) (by decide +kernel), List.mem_of_getElem? (i := 231) (by decide +kernel), List.mem_of_getElem? (i := 232) (by decide +kernel)⟩
theorem lw_p21 : lw_okq (⟨"ToolChoice$RowList", "size", "()I"⟩, 2) := ⟨⟨by decide +kernel, by decide +kernel⟩, List.mem_of_getElem? (i := 36) (by decide +kernel), List.mem_of_getElem? (i := 243) (by decide +kernel), List.mem_of_getElem? (i := 244) (by decide +kernel)⟩
theorem lw_p22 : lw_okq (⟨"ToolChoice$RowList", "cell", "(II)I"⟩, 2) := ⟨⟨by decide +kernel, by decide +kernel⟩, List.mem_of_getElem? (i := 36) (by decide +kernel), List.mem_of_getElem? (i := 251) (by decide +kernel), List.mem_of_getElem? (i := 252) (by decide +kernel)⟩
theorem lw_p23 : lw_okq (⟨"ToolChoice", "settleLeads", "()V"⟩, 19) := ⟨⟨by decide +kernel, by decide +kernel⟩, List.mem_of_getElem? (i := 7) (by decide +kernel), List.mem_of_getElem? (i := 263) (by decide +kernel), List.mem_of_getElem? (i := 264) (by decide +kernel)⟩
theorem lw_p24 : lw_okq (⟨"ToolChoice", "stepsFrom", "(I)I"⟩, 19) := ⟨⟨by decide +kernel, by decide +kernel⟩, List.mem_of_getElem? (i := 7) (by decide +kernel), List.mem_of_getElem? (i := 267) (by decide +kernel), List.mem_of_getElem? (i := 268) (by decide +kernel)⟩
theorem lw_p25 : lw_okq (⟨"ToolChoice", "unbuiltOn", "(I)I"⟩, 19) := ⟨⟨by decide +kernel, by decide +kernel⟩, List.mem_of_getElem? (i := 7) (by decide +kernel), List.mem_of_getElem? (i := 271) (by decide +kernel), List.mem_of_getElem? (i := 272) (by decide +kernel)⟩
theorem lw_p26 : lw_okq (⟨"ToolChoiceModel", "isTool", "(I)Z"⟩, 25) := ⟨⟨by decide +kernel, by decide +kernel⟩, List.mem_of_getElem? (i := 275) (by decide +kernel), List.mem_of_getElem? (i := 372) (by decide +kernel), List.mem_of_getElem? (i := 373) (by decide +kernel)⟩
theorem lw_p27 : lw_okq (⟨"ToolChoiceModel", "wants", "(II)Z"⟩, 25) := ⟨⟨by decide +kernel, by decide +kernel⟩, List.mem_of_getElem? (i := 275) (by decide +kernel), List.mem_of_getElem? (i := 380) (by decide +kernel), List.mem_of_getElem? (i := 381) (by decide +kernel)⟩
theorem lw_p28 : lw_okq (⟨"ToolChoiceModel", "place", "(I)I"⟩, 25) := ⟨⟨by decide +kernel, by decide +kernel⟩, List.mem_of_getElem? (i := 275) (by decide +kernel), List.mem_of_getElem? (i := 388) (by decide +kernel), List.mem_of_getElem? (i := 389) (by decide +kernel)⟩
theorem lw_p29 : lw_okq (⟨"ToolChoiceModel", "isPlatform", "(I)Z"⟩, 25) := ⟨⟨by decide +kernel, by decide +kernel⟩, List.mem_of_getElem? (i := 275) (by decide +kernel), List.mem_of_getElem? (i := 404) (by decide +kernel), List.mem_of_getElem? (i := 405) (by decide +kernel)⟩
theorem lw_p30 : lw_okq (⟨"ToolChoiceModel", "build", "()V"⟩, 25) := ⟨⟨by decide +kernel, by decide +kernel⟩, List.mem_of_getElem? (i := 275) (by decide +kernel), List.mem_of_getElem? (i := 408) (by decide +kernel), List.mem_of_getElem? (i := 409) (by decide +kernel)⟩
theorem lw_p31 : lw_okq (⟨"ToolChoiceModel", "runsOn", "(II)Z"⟩, 25) := ⟨⟨by decide +kernel, by decide +kernel⟩, List.mem_of_getElem? (i := 275) (by decide +kernel), List.mem_of_getElem? (i := 415) (by decide +kernel), List.mem_of_getElem? (i := 416) (by decide +kernel)⟩
def lw_privs_2 : List (MethodName × Nat) := [(⟨"ToolChoice$AskedKinds", "leastVersion", "(I)I"⟩, 4), (⟨"ToolChoice", "lackOf", "(IIII)I"⟩, 19), (⟨"ToolChoice", "lowestUnsupplied", "(II)I"⟩, 19), (⟨"ToolChoice$RowList", "add", "(IIII)V"⟩, 2), (⟨"ToolChoice$AskedKinds", "isNeeded", "(I)Z"⟩, 4), (⟨"ToolChoice$RowList", "size", "()I"⟩, 2), (⟨"ToolChoice$RowList", "cell", "(II)I"⟩, 2), (⟨"ToolChoice", "settleLeads", "()V"⟩, 19), (⟨"ToolChoice", "stepsFrom", "(I)I"⟩, 19), (⟨"ToolChoice", "unbuiltOn", "(I)I"⟩, 19), (⟨"ToolChoiceModel", "isTool", "(I)Z"⟩, 25), (⟨"ToolChoiceModel", "wants", "(II)Z"⟩, 25), (⟨"ToolChoiceModel", "place", "(I)I"⟩, 25), (⟨"ToolChoiceModel", "isPlatform", "(I)Z"⟩, 25), (⟨"ToolChoiceModel", "build", "()V"⟩, 25), (⟨"ToolChoiceModel", "runsOn", "(II)Z"⟩, 25)]
theorem lw_r2 : ∀ q ∈ lw_privs_2, lw_okq q := List.forall_mem_cons.mpr ⟨lw_p16, List.forall_mem_cons.mpr ⟨lw_p17, List.forall_mem_cons.mpr ⟨lw_p18, List.forall_mem_cons.mpr ⟨lw_p19, List.forall_mem_cons.mpr ⟨lw_p20, List.forall_mem_cons.mpr ⟨lw_p21, List.forall_mem_cons.mpr ⟨lw_p22, List.forall_mem_cons.mpr ⟨lw_p23, List.forall_mem_cons.mpr ⟨lw_p24, List.forall_mem_cons.mpr ⟨lw_p25, List.forall_mem_cons.mpr ⟨lw_p26, List.forall_mem_cons.mpr ⟨lw_p27, List.forall_mem_cons.mpr ⟨lw_p28, List.forall_mem_cons.mpr ⟨lw_p29, List.forall_mem_cons.mpr ⟨lw_p30, List.forall_mem_cons.mpr ⟨lw_p31, fun _ h => absurd h List.not_mem_nil⟩⟩⟩⟩⟩⟩⟩⟩⟩⟩⟩⟩⟩⟩⟩⟩
theorem lw_p32 : lw_okq (⟨"ToolChoiceModel", "lacking", "(II)I"⟩, 25) := ⟨⟨by decide +kernel, by decide +kernel⟩, List.mem_of_getElem? (i := 275) (by decide +kernel), List.mem_of_getElem? (i := 419) (by decide +kernel), List.mem_of_getElem? (i := 420) (by decide +kernel)⟩
theorem lw_p33 : lw_okq (⟨"ToolChoiceModel", "missing", "(II)I"⟩, 25) := ⟨⟨by decide +kernel, by decide +kernel⟩, List.mem_of_getElem? (i := 275) (by decide +kernel), List.mem_of_getElem? (i := 423) (by decide +kernel), List.mem_of_getElem? (i := 424) (by decide +kernel)⟩
theorem lw_p34 : lw_okq (⟨"ToolChoiceModel", "isThere", "(II)Z"⟩, 25) := ⟨⟨by decide +kernel, by decide +kernel⟩, List.mem_of_getElem? (i := 275) (by decide +kernel), List.mem_of_getElem? (i := 427) (by decide +kernel), List.mem_of_getElem? (i := 428) (by decide +kernel)⟩
theorem lw_p35 : lw_okq (⟨"ToolChoiceModel", "makesFor", "(II)Z"⟩, 25) := ⟨⟨by decide +kernel, by decide +kernel⟩, List.mem_of_getElem? (i := 275) (by decide +kernel), List.mem_of_getElem? (i := 431) (by decide +kernel), List.mem_of_getElem? (i := 432) (by decide +kernel)⟩
theorem lw_p36 : lw_okq (⟨"ToolChoiceModel", "tryOn", "(II)Z"⟩, 25) := ⟨⟨by decide +kernel, by decide +kernel⟩, List.mem_of_getElem? (i := 275) (by decide +kernel), List.mem_of_getElem? (i := 439) (by decide +kernel), List.mem_of_getElem? (i := 440) (by decide +kernel)⟩
theorem lw_p37 : lw_okq (⟨"ToolChoiceModel", "look", "(III)I"⟩, 25) := ⟨⟨by decide +kernel, by decide +kernel⟩, List.mem_of_getElem? (i := 275) (by decide +kernel), List.mem_of_getElem? (i := 443) (by decide +kernel), List.mem_of_getElem? (i := 444) (by decide +kernel)⟩
theorem lw_p38 : lw_okq (⟨"ToolChoiceModel", "why", "(III)I"⟩, 25) := ⟨⟨by decide +kernel, by decide +kernel⟩, List.mem_of_getElem? (i := 275) (by decide +kernel), List.mem_of_getElem? (i := 447) (by decide +kernel), List.mem_of_getElem? (i := 448) (by decide +kernel)⟩
theorem lw_p39 : lw_okq (⟨"ToolChoiceModel", "tell", "(IIII)V"⟩, 25) := ⟨⟨by decide +kernel, by decide +kernel⟩, List.mem_of_getElem? (i := 275) (by decide +kernel), List.mem_of_getElem? (i := 451) (by decide +kernel), List.mem_of_getElem? (i := 452) (by decide +kernel)⟩
theorem lw_p40 : lw_okq (⟨"ToolChoiceModel", "isRing", "(I)Z"⟩, 25) := ⟨⟨by decide +kernel, by decide +kernel⟩, List.mem_of_getElem? (i := 275) (by decide +kernel), List.mem_of_getElem? (i := 471) (by decide +kernel), List.mem_of_getElem? (i := 472) (by decide +kernel)⟩
theorem lw_p41 : lw_okq (⟨"ToolChoiceModel", "comesBack", "(I)Z"⟩, 25) := ⟨⟨by decide +kernel, by decide +kernel⟩, List.mem_of_getElem? (i := 275) (by decide +kernel), List.mem_of_getElem? (i := 475) (by decide +kernel), List.mem_of_getElem? (i := 476) (by decide +kernel)⟩
theorem lw_p42 : lw_okq (⟨"ToolChoiceModel", "isPlace", "(I)Z"⟩, 25) := ⟨⟨by decide +kernel, by decide +kernel⟩, List.mem_of_getElem? (i := 275) (by decide +kernel), List.mem_of_getElem? (i := 479) (by decide +kernel), List.mem_of_getElem? (i := 480) (by decide +kernel)⟩
theorem lw_p43 : lw_okq (⟨"ToolChoiceModel", "leads", "(II)Z"⟩, 25) := ⟨⟨by decide +kernel, by decide +kernel⟩, List.mem_of_getElem? (i := 275) (by decide +kernel), List.mem_of_getElem? (i := 483) (by decide +kernel), List.mem_of_getElem? (i := 484) (by decide +kernel)⟩
def lw_privs_3 : List (MethodName × Nat) := [(⟨"ToolChoiceModel", "lacking", "(II)I"⟩, 25), (⟨"ToolChoiceModel", "missing", "(II)I"⟩, 25), (⟨"ToolChoiceModel", "isThere", "(II)Z"⟩, 25), (⟨"ToolChoiceModel", "makesFor", "(II)Z"⟩, 25), (⟨"ToolChoiceModel", "tryOn", "(II)Z"⟩, 25), (⟨"ToolChoiceModel", "look", "(III)I"⟩, 25), (⟨"ToolChoiceModel", "why", "(III)I"⟩, 25), (⟨"ToolChoiceModel", "tell", "(IIII)V"⟩, 25), (⟨"ToolChoiceModel", "isRing", "(I)Z"⟩, 25), (⟨"ToolChoiceModel", "comesBack", "(I)Z"⟩, 25), (⟨"ToolChoiceModel", "isPlace", "(I)Z"⟩, 25), (⟨"ToolChoiceModel", "leads", "(II)Z"⟩, 25)]
theorem lw_r3 : ∀ q ∈ lw_privs_3, lw_okq q := List.forall_mem_cons.mpr ⟨lw_p32, List.forall_mem_cons.mpr ⟨lw_p33, List.forall_mem_cons.mpr ⟨lw_p34, List.forall_mem_cons.mpr ⟨lw_p35, List.forall_mem_cons.mpr ⟨lw_p36, List.forall_mem_cons.mpr ⟨lw_p37, List.forall_mem_cons.mpr ⟨lw_p38, List.forall_mem_cons.mpr ⟨lw_p39, List.forall_mem_cons.mpr ⟨lw_p40, List.forall_mem_cons.mpr ⟨lw_p41, List.forall_mem_cons.mpr ⟨lw_p42, List.forall_mem_cons.mpr ⟨lw_p43, fun _ h => absurd h List.not_mem_nil⟩⟩⟩⟩⟩⟩⟩⟩⟩⟩⟩⟩
def lw_privs : List (MethodName × Nat) := lw_privs_1 ++ (lw_privs_2 ++ (lw_privs_3))
def lw_tbl : List Cond := k2_sels lw_privs ++ tables_1
theorem lw_privs_ok : ∀ q ∈ lw_privs, lw_okq q := by
  show ∀ q ∈ lw_privs_1 ++ (lw_privs_2 ++ (lw_privs_3)), lw_okq q
  exact List.forall_mem_append.mpr ⟨lw_r1, List.forall_mem_append.mpr ⟨lw_r2, lw_r3⟩⟩
def RAK : String := "ToolChoice$AskedKinds"
def TAK : u_T := fun k => match k with
  | 0 => ("ToolChoice$AskedKinds", "kinds", "[I", true)
  | 1 => ("ToolChoice$AskedKinds", "versions", "[I", true)
  | 2 => ("ToolChoice$AskedKinds", "needed", "[Z", true)
  | _ => ("ToolChoice$AskedKinds", "count", "I", false)
def tyAK : Nat → FieldType := fun k => match k with
  | 0 => .array .int
  | 1 => .array .int
  | 2 => .array .boolean
  | _ => .int
theorem nmAK : ∀ a, a < 4 → ∀ b, b < 4 → a ≠ b → (TAK a).2.1 ≠ (TAK b).2.1 := by decide +kernel
theorem okAK : ∀ k, k < 4 → parseFieldDescriptor (TAK k).2.2.1 = some (tyAK k) := by decide +kernel
def RRO : String := "ToolChoice$RowList"
def TRO : u_T := fun k => match k with
  | 0 => ("ToolChoice$RowList", "cells", "[I", true)
  | _ => ("ToolChoice$RowList", "count", "I", false)
def tyRO : Nat → FieldType := fun k => match k with
  | 0 => .array .int
  | _ => .int
theorem nmRO : ∀ a, a < 2 → ∀ b, b < 2 → a ≠ b → (TRO a).2.1 ≠ (TRO b).2.1 := by decide +kernel
theorem okRO : ∀ k, k < 2 → parseFieldDescriptor (TRO k).2.2.1 = some (tyRO k) := by decide +kernel
def RTC : String := "ToolChoice"
def TTC : u_T := fun k => match k with
  | 0 => ("ToolChoice", "platformHas", "[I", true)
  | 1 => ("ToolChoice", "platformCount", "I", false)
  | 2 => ("ToolChoice", "toolKind", "[I", true)
  | 3 => ("ToolChoice", "runsWants", "[I", true)
  | 4 => ("ToolChoice", "makesWants", "[I", true)
  | 5 => ("ToolChoice", "toolVersion", "[I", true)
  | 6 => ("ToolChoice", "neededKinds", "[I", true)
  | 7 => ("ToolChoice", "toolAtPlace", "[I", true)
  | 8 => ("ToolChoice", "toolCount", "I", false)
  | 9 => ("ToolChoice", "needCount", "I", false)
  | 10 => ("ToolChoice", "asked", "LToolChoice$AskedKinds;", true)
  | 11 => ("ToolChoice", "forcedTool", "[I", true)
  | 12 => ("ToolChoice", "takenTool", "[I", true)
  | 13 => ("ToolChoice", "told", "LToolChoice$RowList;", true)
  | 14 => ("ToolChoice", "runsOn", "[I", true)
  | 15 => ("ToolChoice", "makesFor", "[I", true)
  | 16 => ("ToolChoice", "builtOn", "[I", true)
  | 17 => ("ToolChoice", "suppliedFor", "[I", true)
  | _ => ("ToolChoice", "leadsTo", "[I", true)
def tyTC : Nat → FieldType := fun k => match k with
  | 0 => .array .int
  | 1 => .int
  | 2 => .array .int
  | 3 => .array .int
  | 4 => .array .int
  | 5 => .array .int
  | 6 => .array .int
  | 7 => .array .int
  | 8 => .int
  | 9 => .int
  | 10 => .object "ToolChoice$AskedKinds"
  | 11 => .array .int
  | 12 => .array .int
  | 13 => .object "ToolChoice$RowList"
  | 14 => .array .int
  | 15 => .array .int
  | 16 => .array .int
  | 17 => .array .int
  | _ => .array .int
theorem nmTC : ∀ a, a < 19 → ∀ b, b < 19 → a ≠ b → (TTC a).2.1 ≠ (TTC b).2.1 := by decide +kernel
theorem okTC : ∀ k, k < 19 → parseFieldDescriptor (TTC k).2.2.1 = some (tyTC k) := by decide +kernel
def RMO : String := "ToolChoiceModel"
def TMO : u_T := fun k => match k with
  | 0 => ("ToolChoiceModel", "code", "I", false)
  | 1 => ("ToolChoiceModel", "platforms", "I", false)
  | 2 => ("ToolChoiceModel", "tools", "I", false)
  | 3 => ("ToolChoiceModel", "needs", "I", false)
  | 4 => ("ToolChoiceModel", "asked", "I", false)
  | 5 => ("ToolChoiceModel", "constraints", "[I", true)
  | 6 => ("ToolChoiceModel", "kind", "[I", true)
  | 7 => ("ToolChoiceModel", "runs", "[I", true)
  | 8 => ("ToolChoiceModel", "makes", "[I", true)
  | 9 => ("ToolChoiceModel", "version", "[I", true)
  | 10 => ("ToolChoiceModel", "order", "[I", true)
  | 11 => ("ToolChoiceModel", "needTool", "[I", true)
  | 12 => ("ToolChoiceModel", "needKind", "[I", true)
  | 13 => ("ToolChoiceModel", "askedKind", "[I", true)
  | 14 => ("ToolChoiceModel", "least", "[I", true)
  | 15 => ("ToolChoiceModel", "forced", "[I", true)
  | 16 => ("ToolChoiceModel", "chosen", "[I", true)
  | 17 => ("ToolChoiceModel", "needed", "[Z", true)
  | 18 => ("ToolChoiceModel", "built", "[Z", true)
  | 19 => ("ToolChoiceModel", "met", "[Z", true)
  | 20 => ("ToolChoiceModel", "rowPlatform", "[I", true)
  | 21 => ("ToolChoiceModel", "rowTool", "[I", true)
  | 22 => ("ToolChoiceModel", "rowWhy", "[I", true)
  | 23 => ("ToolChoiceModel", "rowWith", "[I", true)
  | _ => ("ToolChoiceModel", "rows", "I", false)
def tyMO : Nat → FieldType := fun k => match k with
  | 0 => .int
  | 1 => .int
  | 2 => .int
  | 3 => .int
  | 4 => .int
  | 5 => .array .int
  | 6 => .array .int
  | 7 => .array .int
  | 8 => .array .int
  | 9 => .array .int
  | 10 => .array .int
  | 11 => .array .int
  | 12 => .array .int
  | 13 => .array .int
  | 14 => .array .int
  | 15 => .array .int
  | 16 => .array .int
  | 17 => .array .boolean
  | 18 => .array .boolean
  | 19 => .array .boolean
  | 20 => .array .int
  | 21 => .array .int
  | 22 => .array .int
  | 23 => .array .int
  | _ => .int
theorem nmMO : ∀ a, a < 25 → ∀ b, b < 25 → a ≠ b → (TMO a).2.1 ≠ (TMO b).2.1 := by decide +kernel
theorem okMO : ∀ k, k < 25 → parseFieldDescriptor (TMO k).2.2.1 = some (tyMO k) := by decide +kernel
def RAR : String := "java/util/Arrays"
def RLW : String := "ToolChoiceLaw"
abbrev cTC_init : ByteArray := prog_1_method_1_code
def yTC_init : MethodName := ⟨RTC, "<init>", "()V"⟩
abbrev cAK_init : ByteArray := prog_2_method_1_code
def yAK_init : MethodName := ⟨RAK, "<init>", "()V"⟩
abbrev cRO_init : ByteArray := prog_3_method_1_code
def yRO_init : MethodName := ⟨RRO, "<init>", "()V"⟩
abbrev cAR_fill : ByteArray := prog_6_method_103_code
def yAR_fill : MethodName := ⟨RAR, "fill", "([II)V"⟩
abbrev cTC_platform : ByteArray := prog_1_method_2_code
def yTC_platform : MethodName := ⟨RTC, "platform", "(I)I"⟩
abbrev cTC_tool : ByteArray := prog_1_method_3_code
def yTC_tool : MethodName := ⟨RTC, "tool", "(IIII)I"⟩
abbrev cTC_isKind : ByteArray := prog_1_method_17_code
def yTC_isKind : MethodName := ⟨RTC, "isKind", "(I)Z"⟩
abbrev cTC_order : ByteArray := prog_1_method_4_code
def yTC_order : MethodName := ⟨RTC, "order", "(II)Z"⟩
abbrev cTC_isTool : ByteArray := prog_1_method_16_code
def yTC_isTool : MethodName := ⟨RTC, "isTool", "(I)Z"⟩
abbrev cTC_placeOf : ByteArray := prog_1_method_20_code
def yTC_placeOf : MethodName := ⟨RTC, "placeOf", "(I)I"⟩
abbrev cTC_needs : ByteArray := prog_1_method_5_code
def yTC_needs : MethodName := ⟨RTC, "needs", "(II)Z"⟩
abbrev cTC_hasBit : ByteArray := prog_1_method_18_code
def yTC_hasBit : MethodName := ⟨RTC, "hasBit", "(II)Z"⟩
abbrev cTC_ask : ByteArray := prog_1_method_6_code
def yTC_ask : MethodName := ⟨RTC, "ask", "(IIZ)Z"⟩
abbrev cAK_put : ByteArray := prog_2_method_7_code
def yAK_put : MethodName := ⟨RAK, "put", "(IIZ)V"⟩
abbrev cAK_find : ByteArray := prog_2_method_6_code
def yAK_find : MethodName := ⟨RAK, "find", "(I)I"⟩
abbrev cTC_drop : ByteArray := prog_1_method_7_code
def yTC_drop : MethodName := ⟨RTC, "drop", "(I)Z"⟩
abbrev cAK_remove : ByteArray := prog_2_method_8_code
def yAK_remove : MethodName := ⟨RAK, "remove", "(I)Z"⟩
abbrev cTC_force : ByteArray := prog_1_method_8_code
def yTC_force : MethodName := ⟨RTC, "force", "(II)Z"⟩
abbrev cTC_choose : ByteArray := prog_1_method_9_code
def yTC_choose : MethodName := ⟨RTC, "choose", "(I)I"⟩
abbrev cTC_isPlatform : ByteArray := prog_1_method_15_code
def yTC_isPlatform : MethodName := ⟨RTC, "isPlatform", "(I)Z"⟩
abbrev cTC_settleBuilt : ByteArray := prog_1_method_27_code
def yTC_settleBuilt : MethodName := ⟨RTC, "settleBuilt", "()V"⟩
abbrev cTC_platformsHaving : ByteArray := prog_1_method_26_code
def yTC_platformsHaving : MethodName := ⟨RTC, "platformsHaving", "(I)I"⟩
abbrev cTC_growBuilt : ByteArray := prog_1_method_28_code
def yTC_growBuilt : MethodName := ⟨RTC, "growBuilt", "()Z"⟩
abbrev cTC_platformsWithSupplies : ByteArray := prog_1_method_29_code
def yTC_platformsWithSupplies : MethodName := ⟨RTC, "platformsWithSupplies", "(I)I"⟩
abbrev cRO_clear : ByteArray := prog_3_method_2_code
def yRO_clear : MethodName := ⟨RRO, "clear", "()V"⟩
abbrev cTC_takeTools : ByteArray := prog_1_method_21_code
def yTC_takeTools : MethodName := ⟨RTC, "takeTools", "(II)Z"⟩
abbrev cAK_size : ByteArray := prog_2_method_2_code
def yAK_size : MethodName := ⟨RAK, "size", "()I"⟩
abbrev cAK_kindAt : ByteArray := prog_2_method_3_code
def yAK_kindAt : MethodName := ⟨RAK, "kindAt", "(I)I"⟩
abbrev cTC_firstGood : ByteArray := prog_1_method_22_code
def yTC_firstGood : MethodName := ⟨RTC, "firstGood", "(III)I"⟩
abbrev cTC_whyNot : ByteArray := prog_1_method_23_code
def yTC_whyNot : MethodName := ⟨RTC, "whyNot", "(III)I"⟩
abbrev cAK_leastVersion : ByteArray := prog_2_method_4_code
def yAK_leastVersion : MethodName := ⟨RAK, "leastVersion", "(I)I"⟩
abbrev cTC_lackOf : ByteArray := prog_1_method_24_code
def yTC_lackOf : MethodName := ⟨RTC, "lackOf", "(IIII)I"⟩
abbrev cTC_lowestBit : ByteArray := prog_1_method_19_code
def yTC_lowestBit : MethodName := ⟨RTC, "lowestBit", "(I)I"⟩
abbrev cTC_lowestUnsupplied : ByteArray := prog_1_method_25_code
def yTC_lowestUnsupplied : MethodName := ⟨RTC, "lowestUnsupplied", "(II)I"⟩
abbrev cRO_add : ByteArray := prog_3_method_4_code
def yRO_add : MethodName := ⟨RRO, "add", "(IIII)V"⟩
abbrev cAK_isNeeded : ByteArray := prog_2_method_5_code
def yAK_isNeeded : MethodName := ⟨RAK, "isNeeded", "(I)Z"⟩
abbrev cTC_chosen : ByteArray := prog_1_method_10_code
def yTC_chosen : MethodName := ⟨RTC, "chosen", "(I)I"⟩
abbrev cTC_rows : ByteArray := prog_1_method_11_code
def yTC_rows : MethodName := ⟨RTC, "rows", "()I"⟩
abbrev cRO_size : ByteArray := prog_3_method_3_code
def yRO_size : MethodName := ⟨RRO, "size", "()I"⟩
abbrev cTC_row : ByteArray := prog_1_method_12_code
def yTC_row : MethodName := ⟨RTC, "row", "(II)I"⟩
abbrev cRO_cell : ByteArray := prog_3_method_5_code
def yRO_cell : MethodName := ⟨RRO, "cell", "(II)I"⟩
abbrev cTC_built : ByteArray := prog_1_method_13_code
def yTC_built : MethodName := ⟨RTC, "built", "(II)Z"⟩
abbrev cTC_ring : ByteArray := prog_1_method_14_code
def yTC_ring : MethodName := ⟨RTC, "ring", "(I)I"⟩
abbrev cTC_settleLeads : ByteArray := prog_1_method_30_code
def yTC_settleLeads : MethodName := ⟨RTC, "settleLeads", "()V"⟩
abbrev cTC_stepsFrom : ByteArray := prog_1_method_31_code
def yTC_stepsFrom : MethodName := ⟨RTC, "stepsFrom", "(I)I"⟩
abbrev cTC_unbuiltOn : ByteArray := prog_1_method_32_code
def yTC_unbuiltOn : MethodName := ⟨RTC, "unbuiltOn", "(I)I"⟩
abbrev cMO_init : ByteArray := prog_5_method_1_code
def yMO_init : MethodName := ⟨RMO, "<init>", "()V"⟩
abbrev cMO_platform : ByteArray := prog_5_method_6_code
def yMO_platform : MethodName := ⟨RMO, "platform", "(I)I"⟩
abbrev cMO_tool : ByteArray := prog_5_method_7_code
def yMO_tool : MethodName := ⟨RMO, "tool", "(IIII)I"⟩
abbrev cMO_isKind : ByteArray := prog_5_method_5_code
def yMO_isKind : MethodName := ⟨RMO, "isKind", "(I)Z"⟩
abbrev cMO_order : ByteArray := prog_5_method_8_code
def yMO_order : MethodName := ⟨RMO, "order", "(II)Z"⟩
abbrev cMO_isTool : ByteArray := prog_5_method_4_code
def yMO_isTool : MethodName := ⟨RMO, "isTool", "(I)Z"⟩
abbrev cMO_needs : ByteArray := prog_5_method_10_code
def yMO_needs : MethodName := ⟨RMO, "needs", "(II)Z"⟩
abbrev cMO_wants : ByteArray := prog_5_method_9_code
def yMO_wants : MethodName := ⟨RMO, "wants", "(II)Z"⟩
abbrev cMO_ask : ByteArray := prog_5_method_12_code
def yMO_ask : MethodName := ⟨RMO, "ask", "(IIZ)Z"⟩
abbrev cMO_place : ByteArray := prog_5_method_11_code
def yMO_place : MethodName := ⟨RMO, "place", "(I)I"⟩
abbrev cMO_drop : ByteArray := prog_5_method_13_code
def yMO_drop : MethodName := ⟨RMO, "drop", "(I)Z"⟩
abbrev cMO_force : ByteArray := prog_5_method_14_code
def yMO_force : MethodName := ⟨RMO, "force", "(II)Z"⟩
abbrev cMO_built : ByteArray := prog_5_method_22_code
def yMO_built : MethodName := ⟨RMO, "built", "(II)Z"⟩
abbrev cMO_isPlatform : ByteArray := prog_5_method_3_code
def yMO_isPlatform : MethodName := ⟨RMO, "isPlatform", "(I)Z"⟩
abbrev cMO_build : ByteArray := prog_5_method_21_code
def yMO_build : MethodName := ⟨RMO, "build", "()V"⟩
abbrev cMO_at : ByteArray := prog_5_method_18_code
def yMO_at : MethodName := ⟨RMO, "at", "(II)I"⟩
abbrev cMO_runsOn : ByteArray := prog_5_method_16_code
def yMO_runsOn : MethodName := ⟨RMO, "runsOn", "(II)Z"⟩
abbrev cMO_lacking : ByteArray := prog_5_method_15_code
def yMO_lacking : MethodName := ⟨RMO, "lacking", "(II)I"⟩
abbrev cMO_missing : ByteArray := prog_5_method_20_code
def yMO_missing : MethodName := ⟨RMO, "missing", "(II)I"⟩
abbrev cMO_isThere : ByteArray := prog_5_method_19_code
def yMO_isThere : MethodName := ⟨RMO, "isThere", "(II)Z"⟩
abbrev cMO_makesFor : ByteArray := prog_5_method_17_code
def yMO_makesFor : MethodName := ⟨RMO, "makesFor", "(II)Z"⟩
abbrev cMO_choose : ByteArray := prog_5_method_27_code
def yMO_choose : MethodName := ⟨RMO, "choose", "(I)I"⟩
abbrev cMO_tryOn : ByteArray := prog_5_method_26_code
def yMO_tryOn : MethodName := ⟨RMO, "tryOn", "(II)Z"⟩
abbrev cMO_look : ByteArray := prog_5_method_25_code
def yMO_look : MethodName := ⟨RMO, "look", "(III)I"⟩
abbrev cMO_why : ByteArray := prog_5_method_23_code
def yMO_why : MethodName := ⟨RMO, "why", "(III)I"⟩
abbrev cMO_tell : ByteArray := prog_5_method_24_code
def yMO_tell : MethodName := ⟨RMO, "tell", "(IIII)V"⟩
abbrev cMO_chosen : ByteArray := prog_5_method_28_code
def yMO_chosen : MethodName := ⟨RMO, "chosen", "(I)I"⟩
abbrev cMO_rows : ByteArray := prog_5_method_29_code
def yMO_rows : MethodName := ⟨RMO, "rows", "()I"⟩
abbrev cMO_row : ByteArray := prog_5_method_30_code
def yMO_row : MethodName := ⟨RMO, "row", "(II)I"⟩
abbrev cMO_ring : ByteArray := prog_5_method_35_code
def yMO_ring : MethodName := ⟨RMO, "ring", "(I)I"⟩
abbrev cMO_isRing : ByteArray := prog_5_method_34_code
def yMO_isRing : MethodName := ⟨RMO, "isRing", "(I)Z"⟩
abbrev cMO_comesBack : ByteArray := prog_5_method_33_code
def yMO_comesBack : MethodName := ⟨RMO, "comesBack", "(I)Z"⟩
abbrev cMO_isPlace : ByteArray := prog_5_method_32_code
def yMO_isPlace : MethodName := ⟨RMO, "isPlace", "(I)Z"⟩
abbrev cMO_leads : ByteArray := prog_5_method_31_code
def yMO_leads : MethodName := ⟨RMO, "leads", "(II)Z"⟩
abbrev cLW_law : ByteArray := code
abbrev vwCl : List vw_C := [(RAK, TAK, 4), (RRO, TRO, 2), (RTC, TTC, 19), (RMO, TMO, 25)]
def tc_nest : List (String × Nat × MethodName × String) := [(RTC, 43, yAK_init, RTC), (RTC, 56, yRO_init, RTC), (RTC, 97, yAK_put, RTC), (RTC, 101, yAK_remove, RTC), (RTC, 110, yRO_clear, RTC), (RTC, 127, yAK_size, RTC), (RTC, 128, yAK_kindAt, RTC), (RTC, 149, yAK_leastVersion, RTC), (RTC, 145, yRO_add, RTC), (RTC, 135, yAK_isNeeded, RTC), (RTC, 116, yRO_size, RTC), (RTC, 120, yRO_cell, RTC)]
end
section
/-! THE PURE LAYER: a method's walk told over pure cells (tcC), with no machine in the goal. A value: an int, null, or the place of a cell. -/
abbrev tcV : Type := Int32 ⊕ Option Nat
def tc_v (ad : Nat → Nat) (v : tcV) : Value := match v with
  | .inl x => .int x
  | .inr none => .null
  | .inr (some k) => .ref (ad k)
theorem tc_cat (ad : Nat → Nat) (v : tcV) : (tc_v ad v).category = 1 := by
  rcases v with x | (_ | k) <;> rfl
/-- a cell: an array (tag, length, contents: ints or places), or an object (number of its class, fields) -/
abbrev tcC : Type := (Nat × Nat × ((Nat → Int32) ⊕ (Nat → Option Nat))) ⊕ (Nat × List tcV)
def tc_e (ad : Nat → Nat) (tg : Nat → ClassId) (c : tcC) : va_E := match c with
  | .inl (t, n, .inl f) => .inl (tg t, n, .inl f)
  | .inl (t, n, .inr g) => .inl (tg t, n, .inr (.inr (.inr (.inr (fun j => (g j).map ad)))))
  | .inr (ci, fs) => .inr (ci, fs.map (tc_v ad))
def tc_w (ad : Nat → Nat) (tg : Nat → ClassId) (h : List tcC) : va_W := h.mapIdx (fun k c => (ad k, tc_e ad tg c))
theorem tc_w_at {ad : Nat → Nat} {tg : Nat → ClassId} {h : List tcC} {k : Nat} {c : tcC} (hk : h[k]? = some c) : (tc_w ad tg h)[k]? = some (ad k, tc_e ad tg c) := by
  simp [tc_w, List.getElem?_mapIdx, hk]
theorem tc_w_set {ad : Nat → Nat} {tg : Nat → ClassId} {h : List tcC} {k : Nat} {c : tcC} : (tc_w ad tg h).set k (ad k, tc_e ad tg c) = tc_w ad tg (h.set k c) := by
  simp [tc_w, List.mapIdx_set]
/-- places below n -/
def tc_ok (n : Nat) (v : tcV) : Bool := match v with
  | .inr (some k) => decide (k < n)
  | _ => true
def tc_okL (n : Nat) (L : List (Option tcV)) : Bool := L.all (fun o => match o with
  | some v => tc_ok n v
  | none => true)
def tc_okS (n : Nat) (st : List tcV) : Bool := st.all (tc_ok n)
theorem tc_v_ag {n : Nat} {ad ad' : Nat → Nat} (ha : ∀ k, k < n → ad' k = ad k) {v : tcV} (hv : tc_ok n v = true) : tc_v ad' v = tc_v ad v := by
  rcases v with x | (_ | k)
  · rfl
  · rfl
  · show Value.ref (ad' k) = Value.ref (ad k)
    rw [ha k (of_decide_eq_true hv)]
theorem tc_vs_ag {n : Nat} {ad ad' : Nat → Nat} (ha : ∀ k, k < n → ad' k = ad k) {st : List tcV} (hv : tc_okS n st = true) : st.map (tc_v ad') = st.map (tc_v ad) := by
  refine List.map_congr_left (fun v hm => tc_v_ag ha ?_)
  exact List.all_eq_true.mp hv v hm
/-- the tables' words that every method takes along -/
def tc_T : List Cond := lw_tbl.filter goodWord
theorem tc_T_good : ∀ w ∈ tc_T, ((w.onTables && w.keeps) = true ∨ ∃ ty, w = .arrayClass ty) := fun w h => good_of_word (List.mem_filter.mp h).2
theorem tc_in {w : Cond} (h : w ∈ lw_tbl) (hg : goodWord w = true) : w ∈ tc_T := List.mem_filter.mpr ⟨h, hg⟩
theorem tc_goodIn {w : Cond} (h : w ∈ tc_T) : GoodIn tc_T (w :: tc_T) := fun v hv => by
  rcases List.mem_cons.mp hv with rfl | hv
  · exact ⟨h, tc_T_good _ h⟩
  · exact ⟨hv, tc_T_good _ hv⟩
def tc_N (U : State) : Prop := ∀ q ∈ tc_nest, va_Nw (.methodLinkNest q.1 q.2.1 q.2.2.1 q.2.2.2) U
theorem tc_N.warm {s U : State} (hW : s.WarmedH U.vm) (h : tc_N s) : tc_N U := fun q hq => va_Nw.warmM hW (h q hq)
theorem tc_N.same {u U : State} (e : u.vm = U.vm) (h : tc_N u) : tc_N U := fun q hq => va_Nw.same rfl e (h q hq)
def tc_ty (tg : Nat → ClassId) : List (ClassId × FieldType) := [(tg 0, .int), (tg 1, .boolean)]
def tc_U (D : va_G) (tg : Nat → ClassId) (ad : Nat → Nat) (sz : Nat) (h : List tcC) (U : State) : Prop :=
  U.heap.size = sz ∧ va_P D vwCl (tc_w ad tg h) U.heap ∧ va_K D vwCl (tc_ty tg) U ∧ va_D (fun _ => True) (tc_w ad tg h) ∧ tc_N U
/-- what a method is held to: the cells before, its answer, the cells behind, how many cells and slots it may make -/
abbrev tcK : Type := List tcC × Option tcV × List tcC × Nat × Nat
def tc_Q (D : va_G) (tg : Nat → ClassId) (ad0 : Nat → Nat) (sz : Nat) (K : tcK) : Array Value → State → Outcome → State → Prop := fun _ st oc t =>
  ∃ ad : Nat → Nat, (∀ k, k < K.1.length → ad k = ad0 k) ∧ oc = .returned (K.2.1.map (tc_v ad)) ∧ va_P D vwCl (tc_w ad tg K.2.2.1) t.heap ∧ va_D (va_A (tc_w ad0 tg K.1) sz) (tc_w ad tg K.2.2.1) ∧ va_F (va_A (tc_w ad0 tg K.1) sz) st t
def tc_rm (d mc ms : Nat) : Room := { frames := d, cells := mc, slots := ms, locals := 32 * d }
/-- a method's contract: from the cells K.1 with these arguments it returns K.2.1, and the cells are K.2.2.1 -/
def tc_M (y : MethodName) (cc : ByteArray) (nL : Nat) (ret : Option FieldType) (d : Nat) (As : List tcV) (K : tcK) : Prop :=
  K.1.length ≤ K.2.2.1.length ∧ ∀ (l : Launch) (D : va_G) (tg : Nat → ClassId) (ad : Nat → Nat) (sz : Nat), Met l y (.code y cc nL ret :: tc_T) (tc_rm d K.2.2.2.1 K.2.2.2.2) (va_Pc (As.map (tc_v ad)) (tc_U D tg ad sz K.1)) (tc_Q D tg ad sz K) K.2.2.2.1 K.2.2.2.2 (va_A (tc_w ad tg K.1) sz)
/-- a method's own data: code, locals, class, type of its answer, depth, name -/
abbrev tcM : Type := ByteArray × Nat × String × Option FieldType × Nat × String
def tc_B (M : tcM) (p : Program) (s : State) (m : MethodId) (args : Array Value) (meth : Method) (c : Code) (D : va_G) (tg : Nat → ClassId) : Prop :=
  p.tables.exec = Jvm.exec ∧ c.code = M.1 ∧ c.maxLocals = M.2.1 ∧ s.vm.findClass M.2.2.1 = some m.cls ∧ (∀ w ∈ tc_T, w.before args s = true) ∧ va_K D vwCl (tc_ty tg) s ∧ tc_N s ∧ meth.sig.returnType = M.2.2.2.1 ∧ meth.locks = false ∧ meth.name = M.2.2.2.2.2
def tc_L (ad : Nat → Nat) (ls : Array Slot) (nL : Nat) (L : List (Option tcV)) : Prop := ls.size = nL ∧ lv_wf ls ∧ ∀ (i : Nat) (v : tcV), L[i]? = some (some v) → ls[i]? = some (.val (tc_v ad v))
theorem tc_L_ag {n : Nat} {ad ad' : Nat → Nat} (ha : ∀ k, k < n → ad' k = ad k) {L : List (Option tcV)} (hv : tc_okL n L = true) {ls : Array Slot} {nL : Nat} (h : tc_L ad ls nL L) : tc_L ad' ls nL L := by
  refine ⟨h.1, h.2.1, fun i v hi => ?_⟩
  have h1 := List.all_eq_true.mp hv _ (List.mem_of_getElem? hi)
  rw [tc_v_ag ha h1]
  exact h.2.2 i v hi
/-- THE JUDGEMENT: from these cells, at pc, with these locals and this stack, cc cells of ss slots being made, the method comes to what K asks -/
def tc_V (M : tcM) (K : tcK) (nc ns : Nat) (h : List tcC) (pc : Nat) (L : List (Option tcV)) (st : List tcV) : Prop :=
  ∀ (l : Launch) (p : Program) (e : Env) (s : State) (m : MethodId) (args : Array Value) (below : List Frame) (meth : Method) (c : Code) (D : va_G) (tg : Nat → ClassId) (ad0 ad : Nat → Nat), tc_B M p s m args meth c D tg →
  (K.1.length ≤ h.length ∧ ∀ k, k < K.1.length → ad k = ad0 k) →
  ∀ (H : Heap) (locs : List Loc) (ls : Array Slot), va_P D vwCl (tc_w ad tg h) H → va_D (va_A (tc_w ad0 tg K.1) s.heap.size) (tc_w ad tg h) → va_S (va_A (tc_w ad0 tg K.1) s.heap.size) s.heap H locs → tc_L ad ls M.2.1 L →
  W p l e (tc_rm M.2.2.2.2.1 K.2.2.2.1 K.2.2.2.2) s m args below meth c H locs nc ns (MQ below (tc_Q D tg ad0 s.heap.size K) args s K.2.2.2.1 K.2.2.2.2 (va_A (tc_w ad0 tg K.1) s.heap.size)) (F0 m pc ls (st.map (tc_v ad)))
/-! the locals -/
theorem tc_lg (ad : Nat → Nat) : ∀ (vs : List tcV), (lg_sl (vs.map (tc_v ad))).length = vs.length
  | [] => rfl
  | v :: vs => by
    have ih := tc_lg ad vs
    simp only [lg_sl, List.map_cons, List.flatMap_cons, tc_cat] at ih ⊢
    simp [ih]
theorem tc_arg (ad : Nat → Nat) : ∀ (vs : List tcV) (k i : Nat) (v : tcV), vs[i]? = some v → (k + i, tc_v ad v) ∈ lv_args k (vs.map (tc_v ad))
  | [], k, i, v, h => by simp at h
  | w :: vs, k, i, v, h => by
    simp only [List.map_cons, lv_args, tc_cat]
    cases i with
    | zero =>
      simp at h
      subst h
      exact List.mem_cons_self
    | succ i =>
      have h1 := tc_arg ad vs (k + 1) i v (by simpa using h)
      refine List.mem_cons_of_mem _ ?_
      have e : k + (i + 1) = k + 1 + i := by omega
      rw [e]
      simpa using h1
def tc_ll (ad : Nat → Nat) (L : List (Option tcV)) : List (Nat × Value) := (List.range L.length).filterMap (fun i => match L[i]? with
  | some (some v) => some (i, tc_v ad v)
  | _ => none)
theorem tc_ll_in {ad : Nat → Nat} {L : List (Option tcV)} {i : Nat} {v : tcV} (h : L[i]? = some (some v)) : (i, tc_v ad v) ∈ tc_ll ad L := by
  refine List.mem_filterMap.mpr ⟨i, List.mem_range.mpr (List.getElem?_eq_some_iff.mp h).1, ?_⟩
  rw [h]
theorem tc_ll_has {ad : Nat → Nat} {ls : Array Slot} {nL : Nat} {L : List (Option tcV)} (h : tc_L ad ls nL L) : lv_has ls nL (tc_ll ad L) := by
  refine ⟨h.1, h.2.1, fun q hq => ?_⟩
  obtain ⟨i, -, hi⟩ := List.mem_filterMap.mp hq
  split at hi
  · rename_i v hv
    cases hi
    exact h.2.2 i v hv
  · cases hi
theorem tc_L_set {ad : Nat → Nat} {ls : Array Slot} {nL i : Nat} {L : List (Option tcV)} {w : tcV} (h : lv_has ls nL ((i, tc_v ad w) :: (tc_ll ad L).filter (fun q => !(q.1 == i) && !(q.1 + 1 == i && q.2.category == 2)))) : tc_L ad ls nL (L.set i (some w)) := by
  refine ⟨h.1, h.2.1, fun j v hj => ?_⟩
  by_cases hji : j = i
  · subst hji
    have hlt : j < L.length := by
      have := (List.getElem?_eq_some_iff.mp hj).1
      simpa using this
    rw [List.getElem?_set_self hlt] at hj
    cases hj
    exact h.2.2 _ List.mem_cons_self
  · rw [List.getElem?_set_ne (fun q => hji q.symm)] at hj
    refine h.2.2 (j, tc_v ad v) (List.mem_cons_of_mem _ (List.mem_filter.mpr ⟨tc_ll_in hj, ?_⟩))
    simp [hji, tc_cat]
theorem tc_met {y : MethodName} {cc : ByteArray} {nL : Nat} {ret : Option FieldType} {d : Nat} {As : List tcV} {K : tcK} {L : List (Option tcV)} (hy : plainName y.cls = true) (hn : As.length ≤ nL) (hlen : K.1.length ≤ K.2.2.1.length) (hLe : As.map some ++ List.replicate (nL - As.length) none = L)
    (k : tc_V (cc, nL, y.cls, ret, d, y.name) K 0 0 K.1 0 L []) : tc_M y cc nL ret d As K := by
  refine ⟨hlen, ?_⟩
  intro l D tg ad sz
  refine Met.ofW (cc := cc) (maxL := nL) (ret := ret) hy rfl ?_
  intro p e s m args below meth c s₁ B hml hv
  obtain ⟨rfl, hsz, hP, hK, hD0, hN⟩ := hv
  subst hsz
  have hl := lv_entry (As.map (tc_v ad)) (n := nL) (by rw [tc_lg]; exact hn)
  rw [lg_entry_eq]
  refine k l p e s m _ below meth c D tg ad ad ⟨B.exec, B.bytes, hml, findClass_of_methodNamed B.named, fun w hw => atoms_spec (ws := .code y cc nL ret :: tc_T) B.pre w (List.mem_cons_of_mem _ hw), hK, hN, B.returns, B.notSynchronized, (name_of_methodNamed B.named B.method).1⟩ ⟨Nat.le_refl _, fun _ _ => rfl⟩ s.heap [] _ hP hD0.self va_S.rf ⟨hl.1, hl.2.1, fun i v hi => ?_⟩
  subst hLe
  have h2 : As[i]? = some v := by
    by_cases hlt : i < As.length
    · rw [List.getElem?_append_left (by simpa using hlt)] at hi
      simpa using hi
    · rw [List.getElem?_append_right (by simpa using Nat.not_lt.mp hlt)] at hi
      rw [List.getElem?_replicate] at hi
      split at hi <;> cases hi
  have h3 := tc_arg ad As 0 i v h2
  rw [Nat.zero_add] at h3
  exact hl.2.2 _ h3
section TV
variable {M : tcM} {K : tcK} {nc ns : Nat} {h : List tcC} {pc : Nat} {L : List (Option tcV)} {st : List tcV}
theorem tv_iconst {n : Int} {v : Int32} (hd : decode M.1 pc = .ok (.iconst n, 1)) (hv : Int32.ofInt n = v) (k : tc_V M K nc ns h (pc + 1) L (.inl v :: st)) : tc_V M K nc ns h pc L (st) := by
  intro l p e s m args below meth c D tg ad0 ad B hG H locs ls hP hD hS hL
  exact lv_iconst B.1 B.2.1 hd hv (k l p e s m args below meth c D tg ad0 ad B hG H locs ls hP hD hS hL)
theorem tv_bipush {n : Int} {v : Int32} (hd : decode M.1 pc = .ok (.bipush n, 2)) (hv : (Int8.ofInt n).toInt32 = v) (k : tc_V M K nc ns h (pc + 2) L (.inl v :: st)) : tc_V M K nc ns h pc L (st) := by
  intro l p e s m args below meth c D tg ad0 ad B hG H locs ls hP hD hS hL
  exact lv_bipush B.1 B.2.1 hd hv (k l p e s m args below meth c D tg ad0 ad B hG H locs ls hP hD hS hL)
theorem tv_sipush {n : Int} {v : Int32} (hd : decode M.1 pc = .ok (.sipush n, 3)) (hv : (Int16.ofInt n).toInt32 = v) (k : tc_V M K nc ns h (pc + 3) L (.inl v :: st)) : tc_V M K nc ns h pc L (st) := by
  intro l p e s m args below meth c D tg ad0 ad B hG H locs ls hP hD hS hL
  exact lv_sipush B.1 B.2.1 hd hv (k l p e s m args below meth c D tg ad0 ad B hG H locs ls hP hD hS hL)
theorem tv_iload_n {k : Fin 4} {i : Nat} {x : Int32} (hd : decode M.1 pc = .ok (.iload_n k, 1)) (hi : (k : Nat) = i) (hl : L[i]? = some (some (.inl x))) (k : tc_V M K nc ns h (pc + 1) L (.inl x :: st)) : tc_V M K nc ns h pc L st := by
  intro l p e s m args below meth c D tg ad0 ad B hG H locs ls hP hD hS hL
  exact lv_iload_n B.1 B.2.1 hd hi (hL.2.2 i _ hl) (k l p e s m args below meth c D tg ad0 ad B hG H locs ls hP hD hS hL)
theorem tv_iload  {i : Nat} {x : Int32} (hd : decode M.1 pc = .ok (.iload i, 2)) (hl : L[i]? = some (some (.inl x))) (k : tc_V M K nc ns h (pc + 2) L (.inl x :: st)) : tc_V M K nc ns h pc L st := by
  intro l p e s m args below meth c D tg ad0 ad B hG H locs ls hP hD hS hL
  exact lv_iload B.1 B.2.1 hd (hL.2.2 i _ hl) (k l p e s m args below meth c D tg ad0 ad B hG H locs ls hP hD hS hL)
theorem tv_aload_n {k : Fin 4} {i x : Nat} (hd : decode M.1 pc = .ok (.aload_n k, 1)) (hi : (k : Nat) = i) (hl : L[i]? = some (some (.inr (some x)))) (k : tc_V M K nc ns h (pc + 1) L (.inr (some x) :: st)) : tc_V M K nc ns h pc L st := by
  intro l p e s m args below meth c D tg ad0 ad B hG H locs ls hP hD hS hL
  exact lv_aload_n B.1 B.2.1 hd hi (hL.2.2 i _ hl) (k l p e s m args below meth c D tg ad0 ad B hG H locs ls hP hD hS hL)
theorem tv_aload  {i x : Nat} (hd : decode M.1 pc = .ok (.aload i, 2)) (hl : L[i]? = some (some (.inr (some x)))) (k : tc_V M K nc ns h (pc + 2) L (.inr (some x) :: st)) : tc_V M K nc ns h pc L st := by
  intro l p e s m args below meth c D tg ad0 ad B hG H locs ls hP hD hS hL
  exact lv_aload B.1 B.2.1 hd (hL.2.2 i _ hl) (k l p e s m args below meth c D tg ad0 ad B hG H locs ls hP hD hS hL)
theorem tv_istore_n {k : Fin 4} {x : Int32} {i : Nat} {L' : List (Option tcV)} (hd : decode M.1 pc = .ok (.istore_n k, 1)) (hi : (k : Nat) = i) (hn : i < M.2.1) (hl : L.set i (some (.inl x)) = L') (k : tc_V M K nc ns h (pc + 1) L' st) : tc_V M K nc ns h pc L (.inl x :: st) := by
  intro l p e s m args below meth c D tg ad0 ad B hG H locs ls hP hD hS hL
  refine lv_istore_n B.1 B.2.1 hd hi (tc_ll_has hL) hn rfl (fun ls' h' => ?_)
  subst hl
  exact k l p e s m args below meth c D tg ad0 ad B hG H locs ls' hP hD hS (tc_L_set (w := .inl x) h')
theorem tv_istore {x : Int32} {i : Nat} {L' : List (Option tcV)} (hd : decode M.1 pc = .ok (.istore i, 2)) (hn : i < M.2.1) (hl : L.set i (some (.inl x)) = L') (k : tc_V M K nc ns h (pc + 2) L' st) : tc_V M K nc ns h pc L (.inl x :: st) := by
  intro l p e s m args below meth c D tg ad0 ad B hG H locs ls hP hD hS hL
  refine lv_istore B.1 B.2.1 hd (tc_ll_has hL) hn rfl (fun ls' h' => ?_)
  subst hl
  exact k l p e s m args below meth c D tg ad0 ad B hG H locs ls' hP hD hS (tc_L_set (w := .inl x) h')
theorem tv_astore_n {k : Fin 4} {x : Nat} {i : Nat} {L' : List (Option tcV)} (hd : decode M.1 pc = .ok (.astore_n k, 1)) (hi : (k : Nat) = i) (hn : i < M.2.1) (hl : L.set i (some (.inr (some x))) = L') (k : tc_V M K nc ns h (pc + 1) L' st) : tc_V M K nc ns h pc L (.inr (some x) :: st) := by
  intro l p e s m args below meth c D tg ad0 ad B hG H locs ls hP hD hS hL
  refine lv_astore_n B.1 B.2.1 hd hi (tc_ll_has hL) hn rfl (fun ls' h' => ?_)
  subst hl
  exact k l p e s m args below meth c D tg ad0 ad B hG H locs ls' hP hD hS (tc_L_set (w := .inr (some x)) h')
theorem tv_astore {x : Nat} {i : Nat} {L' : List (Option tcV)} (hd : decode M.1 pc = .ok (.astore i, 2)) (hn : i < M.2.1) (hl : L.set i (some (.inr (some x))) = L') (k : tc_V M K nc ns h (pc + 2) L' st) : tc_V M K nc ns h pc L (.inr (some x) :: st) := by
  intro l p e s m args below meth c D tg ad0 ad B hG H locs ls hP hD hS hL
  refine lv_astore B.1 B.2.1 hd (tc_ll_has hL) hn rfl (fun ls' h' => ?_)
  subst hl
  exact k l p e s m args below meth c D tg ad0 ad B hG H locs ls' hP hD hS (tc_L_set (w := .inr (some x)) h')
theorem tv_iinc {i : Nat} {n : Int} {x v : Int32} {L' : List (Option tcV)} (hd : decode M.1 pc = .ok (.iinc i n, 3)) (hx : L[i]? = some (some (.inl x))) (hv : x + Int32.ofInt n = v) (hn : i < M.2.1) (hl : L.set i (some (.inl v)) = L') (k : tc_V M K nc ns h (pc + 3) L' st) : tc_V M K nc ns h pc L st := by
  intro l p e s m args below meth c D tg ad0 ad B hG H locs ls hP hD hS hL
  obtain ⟨j, hj⟩ := List.getElem?_of_mem (tc_ll_in (ad := ad) hx)
  refine lv_iinc (k := j) B.1 B.2.1 hd (tc_ll_has hL) hj hv hn rfl (fun ls' h' => ?_)
  subst hl
  exact k l p e s m args below meth c D tg ad0 ad B hG H locs ls' hP hD hS (tc_L_set (w := .inl v) h')
theorem tv_iadd {x y : Int32} (hd : decode M.1 pc = .ok (.iadd, 1)) (k : tc_V M K nc ns h (pc + 1) L (.inl (x + y) :: st)) : tc_V M K nc ns h pc L (.inl y :: .inl x :: st) := by
  intro l p e s m args below meth c D tg ad0 ad B hG H locs ls hP hD hS hL
  exact lv_iadd B.1 B.2.1 hd (k l p e s m args below meth c D tg ad0 ad B hG H locs ls hP hD hS hL)
theorem tv_isub {x y : Int32} (hd : decode M.1 pc = .ok (.isub, 1)) (k : tc_V M K nc ns h (pc + 1) L (.inl (x - y) :: st)) : tc_V M K nc ns h pc L (.inl y :: .inl x :: st) := by
  intro l p e s m args below meth c D tg ad0 ad B hG H locs ls hP hD hS hL
  exact lv_isub B.1 B.2.1 hd (k l p e s m args below meth c D tg ad0 ad B hG H locs ls hP hD hS hL)
theorem tv_imul {x y : Int32} (hd : decode M.1 pc = .ok (.imul, 1)) (k : tc_V M K nc ns h (pc + 1) L (.inl (x * y) :: st)) : tc_V M K nc ns h pc L (.inl y :: .inl x :: st) := by
  intro l p e s m args below meth c D tg ad0 ad B hG H locs ls hP hD hS hL
  exact lv_imul B.1 B.2.1 hd (k l p e s m args below meth c D tg ad0 ad B hG H locs ls hP hD hS hL)
theorem tv_iand {x y : Int32} (hd : decode M.1 pc = .ok (.iand, 1)) (k : tc_V M K nc ns h (pc + 1) L (.inl (x &&& y) :: st)) : tc_V M K nc ns h pc L (.inl y :: .inl x :: st) := by
  intro l p e s m args below meth c D tg ad0 ad B hG H locs ls hP hD hS hL
  exact lv_iand B.1 B.2.1 hd (k l p e s m args below meth c D tg ad0 ad B hG H locs ls hP hD hS hL)
theorem tv_ior {x y : Int32} (hd : decode M.1 pc = .ok (.ior, 1)) (k : tc_V M K nc ns h (pc + 1) L (.inl (x ||| y) :: st)) : tc_V M K nc ns h pc L (.inl y :: .inl x :: st) := by
  intro l p e s m args below meth c D tg ad0 ad B hG H locs ls hP hD hS hL
  exact lv_ior B.1 B.2.1 hd (k l p e s m args below meth c D tg ad0 ad B hG H locs ls hP hD hS hL)
theorem tv_ixor {x y : Int32} (hd : decode M.1 pc = .ok (.ixor, 1)) (k : tc_V M K nc ns h (pc + 1) L (.inl (x ^^^ y) :: st)) : tc_V M K nc ns h pc L (.inl y :: .inl x :: st) := by
  intro l p e s m args below meth c D tg ad0 ad B hG H locs ls hP hD hS hL
  exact lv_ixor B.1 B.2.1 hd (k l p e s m args below meth c D tg ad0 ad B hG H locs ls hP hD hS hL)
theorem tv_ishl {x y : Int32} (hd : decode M.1 pc = .ok (.ishl, 1)) (k : tc_V M K nc ns h (pc + 1) L (.inl (x <<< (y &&& 31)) :: st)) : tc_V M K nc ns h pc L (.inl y :: .inl x :: st) := by
  intro l p e s m args below meth c D tg ad0 ad B hG H locs ls hP hD hS hL
  exact lv_ishl B.1 B.2.1 hd (k l p e s m args below meth c D tg ad0 ad B hG H locs ls hP hD hS hL)
theorem tv_ishr {x y : Int32} (hd : decode M.1 pc = .ok (.ishr, 1)) (k : tc_V M K nc ns h (pc + 1) L (.inl (x >>> (y &&& 31)) :: st)) : tc_V M K nc ns h pc L (.inl y :: .inl x :: st) := by
  intro l p e s m args below meth c D tg ad0 ad B hG H locs ls hP hD hS hL
  exact lv_ishr B.1 B.2.1 hd (k l p e s m args below meth c D tg ad0 ad B hG H locs ls hP hD hS hL)
theorem tv_ineg {x : Int32} (hd : decode M.1 pc = .ok (.ineg, 1)) (k : tc_V M K nc ns h (pc + 1) L (.inl (-x) :: st)) : tc_V M K nc ns h pc L (.inl x :: st) := by
  intro l p e s m args below meth c D tg ad0 ad B hG H locs ls hP hD hS hL
  exact lv_ineg B.1 B.2.1 hd (k l p e s m args below meth c D tg ad0 ad B hG H locs ls hP hD hS hL)
theorem tv_iushr {x y : Int32} (hd : decode M.1 pc = .ok (.iushr, 1)) (k : tc_V M K nc ns h (pc + 1) L (.inl ((x.toUInt32 >>> (y.toUInt32 &&& Int32.toUInt32 31)).toInt32) :: st)) : tc_V M K nc ns h pc L (.inl y :: .inl x :: st) := by
  intro l p e s m args below meth c D tg ad0 ad B hG H locs ls hP hD hS hL
  exact lv_iushr B.1 B.2.1 hd rfl (k l p e s m args below meth c D tg ad0 ad B hG H locs ls hP hD hS hL)
theorem tv_dup {a : tcV} (hd : decode M.1 pc = .ok (.dup, 1)) (k : tc_V M K nc ns h (pc + 1) L (a :: a :: st)) : tc_V M K nc ns h pc L (a :: st) := by
  intro l p e s m args below meth c D tg ad0 ad B hG H locs ls hP hD hS hL
  exact lv_dup B.1 B.2.1 hd (tc_cat ad a) (k l p e s m args below meth c D tg ad0 ad B hG H locs ls hP hD hS hL)
theorem tv_pop {a : tcV} (hd : decode M.1 pc = .ok (.pop, 1)) (k : tc_V M K nc ns h (pc + 1) L (st)) : tc_V M K nc ns h pc L (a :: st) := by
  intro l p e s m args below meth c D tg ad0 ad B hG H locs ls hP hD hS hL
  exact lv_pop B.1 B.2.1 hd (tc_cat ad a) (k l p e s m args below meth c D tg ad0 ad B hG H locs ls hP hD hS hL)
theorem tv_dup2 {a b : tcV} (hd : decode M.1 pc = .ok (.dup2, 1)) (k : tc_V M K nc ns h (pc + 1) L (a :: b :: a :: b :: st)) : tc_V M K nc ns h pc L (a :: b :: st) := by
  intro l p e s m args below meth c D tg ad0 ad B hG H locs ls hP hD hS hL
  exact lv_dup2_11 B.1 B.2.1 hd (tc_cat ad a) (tc_cat ad b) (k l p e s m args below meth c D tg ad0 ad B hG H locs ls hP hD hS hL)
theorem tv_dup_x1 {a b : tcV} (hd : decode M.1 pc = .ok (.dup_x1, 1)) (k : tc_V M K nc ns h (pc + 1) L (a :: b :: a :: st)) : tc_V M K nc ns h pc L (a :: b :: st) := by
  intro l p e s m args below meth c D tg ad0 ad B hG H locs ls hP hD hS hL
  exact lv_dup_x1 B.1 B.2.1 hd (tc_cat ad a) (tc_cat ad b) (k l p e s m args below meth c D tg ad0 ad B hG H locs ls hP hD hS hL)
theorem tv_if_eq {x : Int32} {off : Int} {tgt : Nat} (hd : decode M.1 pc = .ok (.ifCond .eq off, 3)) (ht : (pc : Int) + off = (tgt : Int)) (kt : x = 0 → tc_V M K nc ns h tgt L st) (kf : ¬ x = 0 → tc_V M K nc ns h (pc + 3) L st) : tc_V M K nc ns h pc L (.inl x :: st) := by
  intro l p e s m args below meth c D tg ad0 ad B hG H locs ls hP hD hS hL
  exact lv_if_eq B.1 B.2.1 hd ht (fun z => kt z l p e s m args below meth c D tg ad0 ad B hG H locs ls hP hD hS hL) (fun z => kf z l p e s m args below meth c D tg ad0 ad B hG H locs ls hP hD hS hL)
theorem tv_icmp_eq {x y : Int32} {off : Int} {tgt : Nat} (hd : decode M.1 pc = .ok (.if_icmp .eq off, 3)) (ht : (pc : Int) + off = (tgt : Int)) (kt : x = y → tc_V M K nc ns h tgt L st) (kf : ¬ x = y → tc_V M K nc ns h (pc + 3) L st) : tc_V M K nc ns h pc L (.inl y :: .inl x :: st) := by
  intro l p e s m args below meth c D tg ad0 ad B hG H locs ls hP hD hS hL
  exact lv_icmp_eq B.1 B.2.1 hd ht (fun z => kt z l p e s m args below meth c D tg ad0 ad B hG H locs ls hP hD hS hL) (fun z => kf z l p e s m args below meth c D tg ad0 ad B hG H locs ls hP hD hS hL)
theorem tv_if_ne {x : Int32} {off : Int} {tgt : Nat} (hd : decode M.1 pc = .ok (.ifCond .ne off, 3)) (ht : (pc : Int) + off = (tgt : Int)) (kt : ¬ x = 0 → tc_V M K nc ns h tgt L st) (kf : x = 0 → tc_V M K nc ns h (pc + 3) L st) : tc_V M K nc ns h pc L (.inl x :: st) := by
  intro l p e s m args below meth c D tg ad0 ad B hG H locs ls hP hD hS hL
  exact lv_if_ne B.1 B.2.1 hd ht (fun z => kt z l p e s m args below meth c D tg ad0 ad B hG H locs ls hP hD hS hL) (fun z => kf z l p e s m args below meth c D tg ad0 ad B hG H locs ls hP hD hS hL)
theorem tv_icmp_ne {x y : Int32} {off : Int} {tgt : Nat} (hd : decode M.1 pc = .ok (.if_icmp .ne off, 3)) (ht : (pc : Int) + off = (tgt : Int)) (kt : ¬ x = y → tc_V M K nc ns h tgt L st) (kf : x = y → tc_V M K nc ns h (pc + 3) L st) : tc_V M K nc ns h pc L (.inl y :: .inl x :: st) := by
  intro l p e s m args below meth c D tg ad0 ad B hG H locs ls hP hD hS hL
  exact lv_icmp_ne B.1 B.2.1 hd ht (fun z => kt z l p e s m args below meth c D tg ad0 ad B hG H locs ls hP hD hS hL) (fun z => kf z l p e s m args below meth c D tg ad0 ad B hG H locs ls hP hD hS hL)
theorem tv_if_lt {x : Int32} {off : Int} {tgt : Nat} (hd : decode M.1 pc = .ok (.ifCond .lt off, 3)) (ht : (pc : Int) + off = (tgt : Int)) (kt : x < 0 → tc_V M K nc ns h tgt L st) (kf : ¬ x < 0 → tc_V M K nc ns h (pc + 3) L st) : tc_V M K nc ns h pc L (.inl x :: st) := by
  intro l p e s m args below meth c D tg ad0 ad B hG H locs ls hP hD hS hL
  exact lv_if_lt B.1 B.2.1 hd ht (fun z => kt z l p e s m args below meth c D tg ad0 ad B hG H locs ls hP hD hS hL) (fun z => kf z l p e s m args below meth c D tg ad0 ad B hG H locs ls hP hD hS hL)
theorem tv_icmp_lt {x y : Int32} {off : Int} {tgt : Nat} (hd : decode M.1 pc = .ok (.if_icmp .lt off, 3)) (ht : (pc : Int) + off = (tgt : Int)) (kt : x < y → tc_V M K nc ns h tgt L st) (kf : ¬ x < y → tc_V M K nc ns h (pc + 3) L st) : tc_V M K nc ns h pc L (.inl y :: .inl x :: st) := by
  intro l p e s m args below meth c D tg ad0 ad B hG H locs ls hP hD hS hL
  exact lv_icmp_lt B.1 B.2.1 hd ht (fun z => kt z l p e s m args below meth c D tg ad0 ad B hG H locs ls hP hD hS hL) (fun z => kf z l p e s m args below meth c D tg ad0 ad B hG H locs ls hP hD hS hL)
theorem tv_if_ge {x : Int32} {off : Int} {tgt : Nat} (hd : decode M.1 pc = .ok (.ifCond .ge off, 3)) (ht : (pc : Int) + off = (tgt : Int)) (kt : 0 ≤ x → tc_V M K nc ns h tgt L st) (kf : ¬ 0 ≤ x → tc_V M K nc ns h (pc + 3) L st) : tc_V M K nc ns h pc L (.inl x :: st) := by
  intro l p e s m args below meth c D tg ad0 ad B hG H locs ls hP hD hS hL
  exact lv_if_ge B.1 B.2.1 hd ht (fun z => kt z l p e s m args below meth c D tg ad0 ad B hG H locs ls hP hD hS hL) (fun z => kf z l p e s m args below meth c D tg ad0 ad B hG H locs ls hP hD hS hL)
theorem tv_icmp_ge {x y : Int32} {off : Int} {tgt : Nat} (hd : decode M.1 pc = .ok (.if_icmp .ge off, 3)) (ht : (pc : Int) + off = (tgt : Int)) (kt : y ≤ x → tc_V M K nc ns h tgt L st) (kf : ¬ y ≤ x → tc_V M K nc ns h (pc + 3) L st) : tc_V M K nc ns h pc L (.inl y :: .inl x :: st) := by
  intro l p e s m args below meth c D tg ad0 ad B hG H locs ls hP hD hS hL
  exact lv_icmp_ge B.1 B.2.1 hd ht (fun z => kt z l p e s m args below meth c D tg ad0 ad B hG H locs ls hP hD hS hL) (fun z => kf z l p e s m args below meth c D tg ad0 ad B hG H locs ls hP hD hS hL)
theorem tv_if_gt {x : Int32} {off : Int} {tgt : Nat} (hd : decode M.1 pc = .ok (.ifCond .gt off, 3)) (ht : (pc : Int) + off = (tgt : Int)) (kt : 0 < x → tc_V M K nc ns h tgt L st) (kf : ¬ 0 < x → tc_V M K nc ns h (pc + 3) L st) : tc_V M K nc ns h pc L (.inl x :: st) := by
  intro l p e s m args below meth c D tg ad0 ad B hG H locs ls hP hD hS hL
  exact lv_if_gt B.1 B.2.1 hd ht (fun z => kt z l p e s m args below meth c D tg ad0 ad B hG H locs ls hP hD hS hL) (fun z => kf z l p e s m args below meth c D tg ad0 ad B hG H locs ls hP hD hS hL)
theorem tv_icmp_gt {x y : Int32} {off : Int} {tgt : Nat} (hd : decode M.1 pc = .ok (.if_icmp .gt off, 3)) (ht : (pc : Int) + off = (tgt : Int)) (kt : y < x → tc_V M K nc ns h tgt L st) (kf : ¬ y < x → tc_V M K nc ns h (pc + 3) L st) : tc_V M K nc ns h pc L (.inl y :: .inl x :: st) := by
  intro l p e s m args below meth c D tg ad0 ad B hG H locs ls hP hD hS hL
  exact lv_icmp_gt B.1 B.2.1 hd ht (fun z => kt z l p e s m args below meth c D tg ad0 ad B hG H locs ls hP hD hS hL) (fun z => kf z l p e s m args below meth c D tg ad0 ad B hG H locs ls hP hD hS hL)
theorem tv_if_le {x : Int32} {off : Int} {tgt : Nat} (hd : decode M.1 pc = .ok (.ifCond .le off, 3)) (ht : (pc : Int) + off = (tgt : Int)) (kt : x ≤ 0 → tc_V M K nc ns h tgt L st) (kf : ¬ x ≤ 0 → tc_V M K nc ns h (pc + 3) L st) : tc_V M K nc ns h pc L (.inl x :: st) := by
  intro l p e s m args below meth c D tg ad0 ad B hG H locs ls hP hD hS hL
  exact lv_if_le B.1 B.2.1 hd ht (fun z => kt z l p e s m args below meth c D tg ad0 ad B hG H locs ls hP hD hS hL) (fun z => kf z l p e s m args below meth c D tg ad0 ad B hG H locs ls hP hD hS hL)
theorem tv_icmp_le {x y : Int32} {off : Int} {tgt : Nat} (hd : decode M.1 pc = .ok (.if_icmp .le off, 3)) (ht : (pc : Int) + off = (tgt : Int)) (kt : x ≤ y → tc_V M K nc ns h tgt L st) (kf : ¬ x ≤ y → tc_V M K nc ns h (pc + 3) L st) : tc_V M K nc ns h pc L (.inl y :: .inl x :: st) := by
  intro l p e s m args below meth c D tg ad0 ad B hG H locs ls hP hD hS hL
  exact lv_icmp_le B.1 B.2.1 hd ht (fun z => kt z l p e s m args below meth c D tg ad0 ad B hG H locs ls hP hD hS hL) (fun z => kf z l p e s m args below meth c D tg ad0 ad B hG H locs ls hP hD hS hL)
theorem tv_goto {off : Int} {tgt : Nat} (hd : decode M.1 pc = .ok (.goto off, 3)) (ht : (pc : Int) + off = (tgt : Int)) (k : tc_V M K nc ns h tgt L st) : tc_V M K nc ns h pc L st := by
  intro l p e s m args below meth c D tg ad0 ad B hG H locs ls hP hD hS hL
  exact lv_goto B.1 B.2.1 hd ht (k l p e s m args below meth c D tg ad0 ad B hG H locs ls hP hD hS hL)
theorem tv_tabOut {dflt lo hi : Int} {offs : Array Int} {len : Nat} {x : Int32} {tgt : Nat} (hd : decode M.1 pc = .ok (.tableswitch dflt lo hi offs, len)) (hx : x.toInt < lo ∨ hi < x.toInt) (ht : (pc : Int) + dflt = (tgt : Int)) (k : tc_V M K nc ns h tgt L st) : tc_V M K nc ns h pc L (.inl x :: st) := by
  intro l p e s m args below meth c D tg ad0 ad B hG H locs ls hP hD hS hL
  exact lv_tableOut B.1 B.2.1 hd hx ht (k l p e s m args below meth c D tg ad0 ad B hG H locs ls hP hD hS hL)
theorem tv_tabIn {dflt lo hi : Int} {offs : Array Int} {len : Nat} {x : Int32} {off : Int} {tgt : Nat} (hd : decode M.1 pc = .ok (.tableswitch dflt lo hi offs, len)) (h1 : ¬ x.toInt < lo) (h2 : ¬ hi < x.toInt) (ho : offs[(x.toInt - lo).toNat]? = some off) (ht : (pc : Int) + off = (tgt : Int)) (k : tc_V M K nc ns h tgt L st) : tc_V M K nc ns h pc L (.inl x :: st) := by
  intro l p e s m args below meth c D tg ad0 ad B hG H locs ls hP hD hS hL
  exact lv_tableIn B.1 B.2.1 hd h1 h2 ho ht (k l p e s m args below meth c D tg ad0 ad B hG H locs ls hP hD hS hL)
theorem tv_top {a b : tcV} (e : a = b) (k : tc_V M K nc ns h pc L (b :: st)) : tc_V M K nc ns h pc L (a :: st) := e ▸ k
theorem tv_eq {h' : List tcC} {L' : List (Option tcV)} {st' : List tcV} (k : tc_V M K nc ns h' pc L' st') (e1 : h = h') (e2 : L = L') (e3 : st = st') : tc_V M K nc ns h pc L st := by
  subst e1 e2 e3
  exact k
/-- a field's link: in class own, entry idx is field k of class ci -/
def tc_F (own : String) (idx ci k : Nat) (C : String) (T : u_T) (N : Nat) : Prop := vwCl[ci]? = some (C, T, N) ∧ k < N ∧ (∀ w ∈ u_ws C T N, w ∈ tc_T) ∧ Cond.fieldLink own idx (T k).1 (T k).2.1 (T k).2.2.1 ∈ tc_T
theorem tv_get {idx ci j q N : Nat} {C : String} {T : u_T} {fs : List tcV} {v : tcV} (hF : tc_F M.2.2.1 idx ci j C T N) (hd : decode M.1 pc = .ok (.getfield idx, 3)) (he : h[q]? = some (.inr (ci, fs))) (hv : fs[j]? = some v) (k : tc_V M K nc ns h (pc + 3) L (v :: st)) : tc_V M K nc ns h pc L (.inr (some q) :: st) := by
  intro l p e s m args below meth c D tg ad0 ad B hG H locs ls hP hD hS hL
  obtain ⟨hc, hk, hu, hl⟩ := hF
  exact va_get B.1 B.2.1 B.2.2.2.2.1 hu B.2.2.2.1 B.2.2.2.2.2.1 hP q (tc_w_at he) hc j hk (B.2.2.2.2.1 _ hl) (fun _ z => z) (v := tc_v ad v) (by simp [hv]) hd (k l p e s m args below meth c D tg ad0 ad B hG H locs ls hP hD hS hL)
/-- what the tables say of the fields of a class, for a write -/
def tc_FT (T : u_T) (N : Nat) (ty0 : Nat → FieldType) : Prop := (∀ j, j < N → parseFieldDescriptor (T j).2.2.1 = some (ty0 j)) ∧ (∀ a, a < N → ∀ b, b < N → a ≠ b → (T a).2.1 ≠ (T b).2.1)
theorem tv_put {idx ci j q N : Nat} {C : String} {T : u_T} {ty0 : Nat → FieldType} {fs fs' : List tcV} {x : Int32} {h' : List tcC} (hF : tc_F M.2.2.1 idx ci j C T N) (hT : tc_FT T N ty0) (g3 : (T j).2.2.2 = false) (g4 : parseFieldDescriptor (T j).2.2.1 = some .int) (hd : decode M.1 pc = .ok (.putfield idx, 3)) (he : h[q]? = some (.inr (ci, fs))) (hk : j < fs.length) (hfs : fs.set j (.inl x) = fs') (hh : h.set q (.inr (ci, fs')) = h') (kk : tc_V M K nc ns h' (pc + 3) L st) : tc_V M K nc ns h pc L (.inl x :: .inr (some q) :: st) := by
  intro l p e s m args below meth c D tg ad0 ad B hG H locs ls hP hD hS hL
  obtain ⟨hc, hkN, hu, hl⟩ := hF
  obtain ⟨g1, g2⟩ := hT
  refine va_put B.1 B.2.1 B.2.2.2.2.1 hu ty0 g1 g2 B.2.2.2.1 B.2.2.2.2.2.1 hP hD hS q (tc_w_at he) hc j hkN (B.2.2.2.2.1 _ hl) (fun _ z => z) g3 (ty := .int) (v := .int x) g4 rfl rfl (by simpa using hk) hd (fun H1 locs1 hP1 hD1 hS1 => ?_)
  have ew : (tc_w ad tg h).set q (ad q, .inr (ci, (fs.map (tc_v ad)).set j (.int x))) = tc_w ad tg h' := by
    have e1 : (fs.map (tc_v ad)).set j (.int x) = fs'.map (tc_v ad) := by
      rw [← hfs, List.map_set]
      rfl
    rw [e1, ← hh]
    exact tc_w_set (c := .inr (ci, fs'))
  rw [ew] at hP1 hD1
  exact kk l p e s m args below meth c D tg ad0 ad B ⟨by rw [← hh, List.length_set]; exact hG.1, hG.2⟩ H1 locs1 ls hP1 hD1 hS1 hL
theorem tv_iald {q n : Nat} {f : Nat → Int32} {i : Int32} (hd : decode M.1 pc = .ok (.iaload, 1)) (he : h[q]? = some (.inl (0, n, .inl f))) (hin : vp_in i n) (k : tc_V M K nc ns h (pc + 1) L (.inl (f i.toNatClampNeg) :: st)) : tc_V M K nc ns h pc L (.inl i :: .inr (some q) :: st) := by
  intro l p e s m args below meth c D tg ad0 ad B hG H locs ls hP hD hS hL
  exact va_iald B.1 B.2.1 B.2.2.2.2.2.1 hP q 0 (tc_w_at he) rfl hin hd (k l p e s m args below meth c D tg ad0 ad B hG H locs ls hP hD hS hL)
theorem tv_zald {q n : Nat} {f : Nat → Int32} {i : Int32} (hd : decode M.1 pc = .ok (.baload, 1)) (he : h[q]? = some (.inl (1, n, .inl f))) (hin : vp_in i n) (k : tc_V M K nc ns h (pc + 1) L (.inl (f i.toNatClampNeg) :: st)) : tc_V M K nc ns h pc L (.inl i :: .inr (some q) :: st) := by
  intro l p e s m args below meth c D tg ad0 ad B hG H locs ls hP hD hS hL
  exact va_zald B.1 B.2.1 B.2.2.2.2.2.1 hP q 1 (tc_w_at he) rfl hin hd (k l p e s m args below meth c D tg ad0 ad B hG H locs ls hP hD hS hL)
theorem tv_iast {q n : Nat} {f : Nat → Int32} {i x : Int32} {h' : List tcC} (hd : decode M.1 pc = .ok (.iastore, 1)) (he : h[q]? = some (.inl (0, n, .inl f))) (hin : vp_in i n) (hh : h.set q (.inl (0, n, .inl (upd f i.toNatClampNeg (x)))) = h') (k : tc_V M K nc ns h' (pc + 1) L st) : tc_V M K nc ns h pc L (.inl x :: .inl i :: .inr (some q) :: st) := by
  intro l p e s m args below meth c D tg ad0 ad B hG H locs ls hP hD hS hL
  refine va_iast B.1 B.2.1 B.2.2.2.2.2.1 hP hD hS q 0 (tc_w_at he) rfl hin hd (fun H1 locs1 hP1 hD1 hS1 => ?_)
  have ew : (tc_w ad tg h).set q (ad q, .inl (tg 0, n, .inl (upd f i.toNatClampNeg (x)))) = tc_w ad tg h' := by
    rw [← hh]
    exact tc_w_set (c := .inl (0, n, .inl (upd f i.toNatClampNeg (x))))
  rw [ew] at hP1 hD1
  exact k l p e s m args below meth c D tg ad0 ad B ⟨by rw [← hh, List.length_set]; exact hG.1, hG.2⟩ H1 locs1 ls hP1 hD1 hS1 hL
theorem tv_zast {q n : Nat} {f : Nat → Int32} {i x : Int32} {h' : List tcC} (hd : decode M.1 pc = .ok (.bastore, 1)) (he : h[q]? = some (.inl (1, n, .inl f))) (hin : vp_in i n) (hh : h.set q (.inl (1, n, .inl (upd f i.toNatClampNeg (vp_nar .boolean x)))) = h') (k : tc_V M K nc ns h' (pc + 1) L st) : tc_V M K nc ns h pc L (.inl x :: .inl i :: .inr (some q) :: st) := by
  intro l p e s m args below meth c D tg ad0 ad B hG H locs ls hP hD hS hL
  refine va_zast B.1 B.2.1 B.2.2.2.2.2.1 hP hD hS q 1 (tc_w_at he) rfl hin hd (fun H1 locs1 hP1 hD1 hS1 => ?_)
  have ew : (tc_w ad tg h).set q (ad q, .inl (tg 1, n, .inl (upd f i.toNatClampNeg (vp_nar .boolean x)))) = tc_w ad tg h' := by
    rw [← hh]
    exact tc_w_set (c := .inl (1, n, .inl (upd f i.toNatClampNeg (vp_nar .boolean x))))
  rw [ew] at hP1 hD1
  exact k l p e s m args below meth c D tg ad0 ad B ⟨by rw [← hh, List.length_set]; exact hG.1, hG.2⟩ H1 locs1 ls hP1 hD1 hS1 hL
theorem tv_alen {q n t : Nat} {x : (Nat → Int32) ⊕ (Nat → Option Nat)} {v : Int32} (hd : decode M.1 pc = .ok (.arraylength, 1)) (he : h[q]? = some (.inl (t, n, x))) (ht : t < 2) (hv : nI n = v) (k : tc_V M K nc ns h (pc + 1) L (.inl v :: st)) : tc_V M K nc ns h pc L (.inr (some q) :: st) := by
  intro l p e s m args below meth c D tg ad0 ad B hG H locs ls hP hD hS hL
  have hty : ∃ ty, (tc_ty tg)[t]? = some (tg t, ty) := by
    match t, ht with
    | 0, _ => exact ⟨_, rfl⟩
    | 1, _ => exact ⟨_, rfl⟩
  obtain ⟨ty, hty⟩ := hty
  rcases x with f | f
  · exact va_alen B.1 B.2.1 B.2.2.2.2.2.1 hP q t (tc_w_at he) hty hv hd (k l p e s m args below meth c D tg ad0 ad B hG H locs ls hP hD hS hL)
  · exact va_alen B.1 B.2.1 B.2.2.2.2.2.1 hP q t (tc_w_at he) hty hv hd (k l p e s m args below meth c D tg ad0 ad B hG H locs ls hP hD hS hL)
theorem tv_iret {ty : FieldType} {x : Int32} (hd : decode M.1 pc = .ok (.ireturn, 1)) (hr : M.2.2.2.1 = some ty) (hn : narrow ty (.int x) = .int x) (h1 : K.2.1 = some (.inl x)) (h2 : K.2.2.1 = h) (hc : nc ≤ K.2.2.2.1 ∧ ns ≤ K.2.2.2.2 := by exact ⟨Nat.zero_le _, Nat.zero_le _⟩) : tc_V M K nc ns h pc L [.inl x] := by
  intro l p e s m args below meth c D tg ad0 ad B hG H locs ls hP hD hS hL
  obtain ⟨hx, hb, hml, hown, hts, hK, hN, hrt, hlk, hnm⟩ := B
  refine W.widen (k := K.2.2.2.1) (n := K.2.2.2.2) hc.1 hc.2 ?_
  exact W.zret (ty := ty) hx hb (by rw [hrt, hr]) hn (fun t ht hW => ⟨ad, hG.2, by rw [h1]; rfl, by rw [ht, h2]; exact hP, by rw [h2]; exact hD, hS.F ht⟩) hS.2.2 hd hlk
theorem tv_vret (hd : decode M.1 pc = .ok (.return_, 1)) (hr : M.2.2.2.1 = none) (h1 : K.2.1 = none) (h2 : K.2.2.1 = h) (hc : nc ≤ K.2.2.2.1 ∧ ns ≤ K.2.2.2.2 := by exact ⟨Nat.zero_le _, Nat.zero_le _⟩) : tc_V M K nc ns h pc L [] := by
  intro l p e s m args below meth c D tg ad0 ad B hG H locs ls hP hD hS hL
  obtain ⟨hx, hb, hml, hown, hts, hK, hN, hrt, hlk, hnm⟩ := B
  refine W.widen (k := K.2.2.2.1) (n := K.2.2.2.2) hc.1 hc.2 ?_
  exact W.vret hx hb (by rw [hrt, hr]) (fun t ht hW => ⟨ad, hG.2, by rw [h1]; rfl, by rw [ht, h2]; exact hP, by rw [h2]; exact hD, hS.F ht⟩) hS.2.2 hd hlk
end TV
/-! calls -/
theorem tc_fr {ad0 ad : Nat → Nat} {tg : Nat → ClassId} {h0 h : List tcC} {sz : Nat} {H0 H : Heap} {locs : List Loc} (hsz : H0.size = sz) (hD : va_D (va_A (tc_w ad0 tg h0) sz) (tc_w ad tg h)) (hS : va_S (va_A (tc_w ad0 tg h0) sz) H0 H locs) : ∀ q, va_A (tc_w ad tg h) H.size q → va_A (tc_w ad0 tg h0) sz q := by
  intro q hq
  rcases hq with ⟨k, e, hk⟩ | hq
  · exact hD.2 k _ hk
  · refine Or.inr ?_
    have := hS.1
    omega
theorem tc_go {M : tcM} {K : tcK} {nc ns mc ms : Nat} {h h' : List tcC} {pc : Nat} {L : List (Option tcV)} {rest : List tcV} {r : Option tcV} {l : Launch} {p : Program} {e : Env} {s : State} {m : MethodId} {args : Array Value} {below : List Frame} {meth : Method} {c : Code} {D : va_G} {tg : Nat → ClassId} {ad0 ad : Nat → Nat} {H : Heap} {locs : List Loc} {ls : Array Slot} {st0 : List Value} {a : Array Value}
    (B : tc_B M p s m args meth c D tg) (hG : K.1.length ≤ h.length ∧ ∀ k, k < K.1.length → ad k = ad0 k) (hD : va_D (va_A (tc_w ad0 tg K.1) s.heap.size) (tc_w ad tg h)) (hS : va_S (va_A (tc_w ad0 tg K.1) s.heap.size) s.heap H locs) (hL : tc_L ad ls M.2.1 L) (hlen : h.length ≤ h'.length) (hwf : tc_okL h.length L = true ∧ tc_okS h.length rest = true)
    (hr : va_Run p l e (tc_rm M.2.2.2.2.1 K.2.2.2.1 K.2.2.2.2) s m args below meth c H locs nc ns mc ms (F0 m pc ls st0) (rest.map (tc_v ad)) (tc_Q D tg ad H.size (h, r, h', mc, ms) a) (va_A (tc_w ad tg h) H.size))
    (k : tc_V M K (nc + mc) (ns + ms) h' (pc + 3) L (r.toList ++ rest)) : W p l e (tc_rm M.2.2.2.2.1 K.2.2.2.1 K.2.2.2.2) s m args below meth c H locs nc ns (MQ below (tc_Q D tg ad0 s.heap.size K) args s K.2.2.2.1 K.2.2.2.2 (va_A (tc_w ad0 tg K.1) s.heap.size)) (F0 m pc ls st0) := by
  have hfr := tc_fr rfl hD hS
  intro T hT X
  obtain ⟨v, st₀, t, T', Lc, h0, X', hLc, e1, e2, ⟨ad', hag, hv, hp, hd, hz, hk⟩, stp⟩ := hr T hT X
  cases hv
  rw [h0] at hz hk
  have hS' : va_S (va_A (tc_w ad0 tg K.1) s.heap.size) s.heap T'.heap (locs ++ Lc) := ⟨Nat.le_trans hS.1 (by rw [e1]; exact hz), fun q h1 h2 => by rw [e1, hk q (Nat.lt_of_lt_of_le h1 hS.1) (fun z => h2 (hfr q z))]; exact hS.2.1 q h1 h2, fun q hq => by
      rcases List.mem_append.mp hq with h | h
      · exact hS.2.2 q h
      · exact hfr _ (hLc q h)⟩
  have hst : (r.map (tc_v ad')).toList ++ rest.map (tc_v ad) = (r.toList ++ rest).map (tc_v ad') := by
    rw [← tc_vs_ag hag hwf.2]
    cases r <;> simp
  have kk := k l p e s m args below meth c D tg ad0 ad' B ⟨Nat.le_trans hG.1 hlen, fun k hk => by rw [hag k (Nat.lt_of_lt_of_le hk hG.1)]; exact hG.2 k hk⟩ T'.heap (locs ++ Lc) ls (by rw [e1]; exact hp) (hd.weaken (fun _ q _ z => hfr q.1 z)) hS' (tc_L_ag hag hwf.1 hL)
  obtain ⟨t2, a1, b1⟩ := kk T' rfl X'
  refine ⟨t2, stp t2 ?_, b1⟩
  rw [← hst] at a1
  exact a1
theorem tc_blind {D : va_G} {tg : Nat → ClassId} {ad : Nat → Nat} {sz : Nat} {h : List tcC} {av : List Value} : FrameBlind (va_Pc av (tc_U D tg ad sz h)) := fun a U g mk q => by
  obtain ⟨q0, q1, qP, qK, qD, qN⟩ := q
  exact ⟨q0, q1, qP, va_K.moved (u := U) (U := U.calling g mk a) (Vm.Alike.refl U.vm) qK, qD, tc_N.same (u := U) (U := U.calling g mk a) rfl qN⟩
theorem tc_pre {M : tcM} {p : Program} {s : State} {m : MethodId} {args : Array Value} {meth : Method} {c : Code} {D : va_G} {tg : Nat → ClassId} {ad : Nat → Nat} {h : List tcC} {H : Heap} {A : Nat → Prop} {As : List tcV} (B : tc_B M p s m args meth c D tg) (hP : va_P D vwCl (tc_w ad tg h) H) (hD : va_D A (tc_w ad tg h)) :
    ∀ U : State, U.heap = H → s.WarmedH U.vm → va_Pc (As.map (tc_v ad)) (tc_U D tg ad H.size h) (As.map (tc_v ad)).toArray U := fun U hU hW =>
  ⟨rfl, by rw [hU], by rw [hU]; exact hP, va_K.moved hW.alike B.2.2.2.2.2.1, hD.weaken (fun _ _ _ _ => trivial), B.2.2.2.2.2.2.1.warm hW⟩
theorem tc_room {d d' nL mc ms Mc Ms : Nat} (hd : d' < d) (hn : nL ≤ 13) : (tc_rm d' mc ms).frames + 1 ≤ (tc_rm d Mc Ms).frames ∧ 8 + (nL + 11) + (tc_rm d' mc ms).locals ≤ (tc_rm d Mc Ms).locals := by
  refine ⟨hd, ?_⟩
  show 8 + (nL + 11) + 32 * d' ≤ 32 * d
  omega
theorem tc_catsum (ad : Nat → Nat) : ∀ (vs : List tcV), ((vs.map (tc_v ad)).map fun v => v.category).sum = vs.length
  | [] => rfl
  | v :: vs => by
    have ih := tc_catsum ad vs
    simp only [List.map_cons, List.sum_cons, List.length_cons, tc_cat]
    rw [ih]
    omega
theorem tc_mroom {m : MethodId} {pc : Nat} {ls : Array Slot} {st0 : List Value} {ad : Nat → Nat} {rest : List tcV} (h : rest.length ≤ 8) : 2 * (F0 m pc ls st0).monitorRoom + ((rest.map (tc_v ad)).map fun v => v.category).sum ≤ 8 := lv_room (by rw [tc_catsum]; exact h)
/-- what a call needs of names and tables: the callee -/
def tc_Y (y : MethodName) (cc : ByteArray) (nL : Nat) (ret : Option FieldType) (n : Nat) : Prop := Cond.code y cc nL ret ∈ tc_T ∧ Cond.initialized y.cls ∈ tc_T ∧ (y.cls ≠ "java/lang/invoke/MethodHandle" ∧ y.cls ≠ "java/lang/invoke/VarHandle" ∧ (parseMethodDescriptor y.desc).map (fun d => d.parameters.length) = some n) ∧ nL ≤ 13
theorem tv_callS {M : tcM} {K : tcK} {nc ns mc ms : Nat} {h h' : List tcC} {pc : Nat} {L : List (Option tcV)} {st rest : List tcV} {y : MethodName} {cc : ByteArray} {nL idx n d' : Nat} {ret : Option FieldType} {r : Option tcV}  (As : List tcV) (hM : tc_M y cc nL ret d' As (h, r, h', mc, ms)) (hY : tc_Y y cc nL ret n) (hl : Cond.methodLink M.2.2.1 idx y ∈ tc_T) (hs : Cond.static y ∈ tc_T) (hdd : d' < M.2.2.2.2.1) (hn : As.length = n) (hst : st = As.reverse ++ rest) (hrest : rest.length ≤ 8) (hwf : tc_okL h.length L = true ∧ tc_okS h.length rest = true) (hd : decode M.1 pc = .ok (.invokestatic idx, 3)) (hcs : nc + mc ≤ K.2.2.2.1 ∧ ns + ms ≤ K.2.2.2.2) (k : tc_V M K (nc + mc) (ns + ms) h' (pc + 3) L (r.toList ++ rest)) : tc_V M K nc ns h pc L st := by
  intro l p e s m args below meth c D tg ad0 ad B hG H locs ls hP hD hS hL
  obtain ⟨y1, y2, y3, y4⟩ := hY
  obtain ⟨hx, hb, hml, hown, hts, hK, hN, hrt, hlk, hnm⟩ := id B
  subst hst
  refine tc_go B hG hD hS hL hM.1 hwf (va_runS (As := As.map (tc_v ad)) (n := n) ⟨hx, hb, hml, hown, hts⟩ (hM.2 l D tg ad H.size) ⟨callB_of n hts (tc_goodIn y1) rfl rfl rfl (hts _ y2) (hts _ hl) y3 (tc_room hdd y4), hts _ hs⟩ ⟨tc_blind, tc_pre B hP hD⟩ rfl (by simpa using hn) hL.1 ?_ (tc_mroom hrest) hd hcs) k
  show ((As.reverse ++ rest).map (tc_v ad)) = _
  rw [List.map_append, List.map_reverse]
theorem tv_callV {M : tcM} {K : tcK} {nc ns mc ms : Nat} {h h' : List tcC} {pc : Nat} {L : List (Option tcV)} {st rest : List tcV} {y : MethodName} {cc : ByteArray} {nL idx n d' : Nat} {ret : Option FieldType} {r : Option tcV} {q ci N : Nat} {T : u_T} {fs : List tcV} (As : List tcV) (hM : tc_M y cc nL ret d' (.inr (some q) :: As) (h, r, h', mc, ms)) (hY : tc_Y y cc nL ret n) (hl : Cond.methodLink M.2.2.1 idx y ∈ tc_T) (hi : Cond.instanceMethod y ∈ tc_T) (hsel : Cond.selects y.cls y y ∈ tc_T) (he : h[q]? = some (.inr (ci, fs))) (hc : vwCl[ci]? = some (y.cls, T, N)) (hdd : d' < M.2.2.2.2.1) (hn : As.length = n) (hst : st = As.reverse ++ .inr (some q) :: rest) (hrest : rest.length ≤ 8) (hwf : tc_okL h.length L = true ∧ tc_okS h.length rest = true) (hd : decode M.1 pc = .ok (.invokevirtual idx, 3)) (hcs : nc + mc ≤ K.2.2.2.1 ∧ ns + ms ≤ K.2.2.2.2) (k : tc_V M K (nc + mc) (ns + ms) h' (pc + 3) L (r.toList ++ rest)) : tc_V M K nc ns h pc L st := by
  intro l p e s m args below meth c D tg ad0 ad B hG H locs ls hP hD hS hL
  obtain ⟨y1, y2, y3, y4⟩ := hY
  obtain ⟨hx, hb, hml, hown, hts, hK, hN, hrt, hlk, hnm⟩ := id B
  subst hst
  refine tc_go B hG hD hS hL hM.1 hwf (va_runV (b := ad q) (C := y.cls) (As := As.map (tc_v ad)) (n := n) ⟨hx, hb, hml, hown, hts⟩ (hM.2 l D tg ad H.size) ⟨callB_of n hts (tc_goodIn y1) rfl rfl rfl (hts _ y2) (hts _ hl) y3 (tc_room hdd y4), hts _ hi, hts _ hsel⟩ ⟨tc_blind, va_recv hK hP hc (tc_w_at he), tc_pre (As := .inr (some q) :: As) B hP hD⟩ rfl (by simpa using hn) hL.1 ?_ (tc_mroom hrest) hd hcs) k
  show ((As.reverse ++ .inr (some q) :: rest).map (tc_v ad)) = _
  rw [List.map_append, List.map_reverse]
  rfl
theorem tv_callN {M : tcM} {K : tcK} {nc ns mc ms : Nat} {h h' : List tcC} {pc : Nat} {L : List (Option tcV)} {st rest : List tcV} {y : MethodName} {cc : ByteArray} {nL idx n d' : Nat} {ret : Option FieldType} {r : Option tcV} {q ci N : Nat} {T : u_T} {fs : List tcV} {host : String} (As : List tcV) (hM : tc_M y cc nL ret d' (.inr (some q) :: As) (h, r, h', mc, ms)) (hY : tc_Y y cc nL ret n) (hl : (M.2.2.1, idx, y, host) ∈ tc_nest) (hi : Cond.instanceMethod y ∈ tc_T) (hsel : Cond.selects y.cls y y ∈ tc_T) (he : h[q]? = some (.inr (ci, fs))) (hc : vwCl[ci]? = some (y.cls, T, N)) (hdd : d' < M.2.2.2.2.1) (hn : As.length = n) (hst : st = As.reverse ++ .inr (some q) :: rest) (hrest : rest.length ≤ 8) (hwf : tc_okL h.length L = true ∧ tc_okS h.length rest = true) (hd : decode M.1 pc = .ok (.invokevirtual idx, 3)) (hcs : nc + mc ≤ K.2.2.2.1 ∧ ns + ms ≤ K.2.2.2.2) (k : tc_V M K (nc + mc) (ns + ms) h' (pc + 3) L (r.toList ++ rest)) : tc_V M K nc ns h pc L st := by
  intro l p e s m args below meth c D tg ad0 ad B hG H locs ls hP hD hS hL
  obtain ⟨y1, y2, y3, y4⟩ := hY
  obtain ⟨hx, hb, hml, hown, hts, hK, hN, hrt, hlk, hnm⟩ := id B
  subst hst
  refine tc_go B hG hD hS hL hM.1 hwf (va_runVN (b := ad q) (C := y.cls) (As := As.map (tc_v ad)) (n := n) ⟨hx, hb, hml, hown, hts⟩ (hM.2 l D tg ad H.size) ⟨va_cnB n hts (tc_goodIn y1) rfl rfl rfl (hN _ hl) (hts _ y2) y3 (tc_room hdd y4), hts _ hi, hts _ hsel⟩ ⟨tc_blind, va_recv hK hP hc (tc_w_at he), tc_pre (As := .inr (some q) :: As) B hP hD⟩ rfl (by simpa using hn) hL.1 ?_ (tc_mroom hrest) hd hcs) k
  show ((As.reverse ++ .inr (some q) :: rest).map (tc_v ad)) = _
  rw [List.map_append, List.map_reverse]
  rfl
section TW
variable {M : tcM} {K : tcK} {nc ns : Nat} {h : List tcC} {pc : Nat} {L : List (Option tcV)} {st : List tcV}
theorem tv_istN_0 {x : Int32} {a0 : Option tcV} (hd : decode M.1 pc = .ok (.istore_n 0, 1)) (hn : 0 < M.2.1) (k : tc_V M K nc ns h (pc + 1) (some (.inl x) :: L) st) : tc_V M K nc ns h pc (a0 :: L) (.inl x :: st) := tv_istore_n hd rfl hn rfl k
theorem tv_ist_0 {x : Int32} {a0 : Option tcV} (hd : decode M.1 pc = .ok (.istore 0, 2)) (hn : 0 < M.2.1) (k : tc_V M K nc ns h (pc + 2) (some (.inl x) :: L) st) : tc_V M K nc ns h pc (a0 :: L) (.inl x :: st) := tv_istore hd hn rfl k
theorem tv_astN_0 {x : Nat} {a0 : Option tcV} (hd : decode M.1 pc = .ok (.astore_n 0, 1)) (hn : 0 < M.2.1) (k : tc_V M K nc ns h (pc + 1) (some (.inr (some x)) :: L) st) : tc_V M K nc ns h pc (a0 :: L) (.inr (some x) :: st) := tv_astore_n hd rfl hn rfl k
theorem tv_ast_0 {x : Nat} {a0 : Option tcV} (hd : decode M.1 pc = .ok (.astore 0, 2)) (hn : 0 < M.2.1) (k : tc_V M K nc ns h (pc + 2) (some (.inr (some x)) :: L) st) : tc_V M K nc ns h pc (a0 :: L) (.inr (some x) :: st) := tv_astore hd hn rfl k
theorem tv_iinc_0 {n : Int} {x v : Int32}  (hd : decode M.1 pc = .ok (.iinc 0 n, 3)) (hn : 0 < M.2.1) (hv : x + Int32.ofInt n = v) (k : tc_V M K nc ns h (pc + 3) (some (.inl v) :: L) st) : tc_V M K nc ns h pc (some (.inl x) :: L) st := tv_iinc hd rfl hv hn rfl k
theorem tv_istN_1 {x : Int32} {a0 a1 : Option tcV} (hd : decode M.1 pc = .ok (.istore_n 1, 1)) (hn : 1 < M.2.1) (k : tc_V M K nc ns h (pc + 1) (a0 :: some (.inl x) :: L) st) : tc_V M K nc ns h pc (a0 :: a1 :: L) (.inl x :: st) := tv_istore_n hd rfl hn rfl k
theorem tv_ist_1 {x : Int32} {a0 a1 : Option tcV} (hd : decode M.1 pc = .ok (.istore 1, 2)) (hn : 1 < M.2.1) (k : tc_V M K nc ns h (pc + 2) (a0 :: some (.inl x) :: L) st) : tc_V M K nc ns h pc (a0 :: a1 :: L) (.inl x :: st) := tv_istore hd hn rfl k
theorem tv_astN_1 {x : Nat} {a0 a1 : Option tcV} (hd : decode M.1 pc = .ok (.astore_n 1, 1)) (hn : 1 < M.2.1) (k : tc_V M K nc ns h (pc + 1) (a0 :: some (.inr (some x)) :: L) st) : tc_V M K nc ns h pc (a0 :: a1 :: L) (.inr (some x) :: st) := tv_astore_n hd rfl hn rfl k
theorem tv_ast_1 {x : Nat} {a0 a1 : Option tcV} (hd : decode M.1 pc = .ok (.astore 1, 2)) (hn : 1 < M.2.1) (k : tc_V M K nc ns h (pc + 2) (a0 :: some (.inr (some x)) :: L) st) : tc_V M K nc ns h pc (a0 :: a1 :: L) (.inr (some x) :: st) := tv_astore hd hn rfl k
theorem tv_iinc_1 {n : Int} {x v : Int32} {a0 : Option tcV} (hd : decode M.1 pc = .ok (.iinc 1 n, 3)) (hn : 1 < M.2.1) (hv : x + Int32.ofInt n = v) (k : tc_V M K nc ns h (pc + 3) (a0 :: some (.inl v) :: L) st) : tc_V M K nc ns h pc (a0 :: some (.inl x) :: L) st := tv_iinc hd rfl hv hn rfl k
theorem tv_istN_2 {x : Int32} {a0 a1 a2 : Option tcV} (hd : decode M.1 pc = .ok (.istore_n 2, 1)) (hn : 2 < M.2.1) (k : tc_V M K nc ns h (pc + 1) (a0 :: a1 :: some (.inl x) :: L) st) : tc_V M K nc ns h pc (a0 :: a1 :: a2 :: L) (.inl x :: st) := tv_istore_n hd rfl hn rfl k
theorem tv_ist_2 {x : Int32} {a0 a1 a2 : Option tcV} (hd : decode M.1 pc = .ok (.istore 2, 2)) (hn : 2 < M.2.1) (k : tc_V M K nc ns h (pc + 2) (a0 :: a1 :: some (.inl x) :: L) st) : tc_V M K nc ns h pc (a0 :: a1 :: a2 :: L) (.inl x :: st) := tv_istore hd hn rfl k
theorem tv_astN_2 {x : Nat} {a0 a1 a2 : Option tcV} (hd : decode M.1 pc = .ok (.astore_n 2, 1)) (hn : 2 < M.2.1) (k : tc_V M K nc ns h (pc + 1) (a0 :: a1 :: some (.inr (some x)) :: L) st) : tc_V M K nc ns h pc (a0 :: a1 :: a2 :: L) (.inr (some x) :: st) := tv_astore_n hd rfl hn rfl k
theorem tv_ast_2 {x : Nat} {a0 a1 a2 : Option tcV} (hd : decode M.1 pc = .ok (.astore 2, 2)) (hn : 2 < M.2.1) (k : tc_V M K nc ns h (pc + 2) (a0 :: a1 :: some (.inr (some x)) :: L) st) : tc_V M K nc ns h pc (a0 :: a1 :: a2 :: L) (.inr (some x) :: st) := tv_astore hd hn rfl k
theorem tv_iinc_2 {n : Int} {x v : Int32} {a0 a1 : Option tcV} (hd : decode M.1 pc = .ok (.iinc 2 n, 3)) (hn : 2 < M.2.1) (hv : x + Int32.ofInt n = v) (k : tc_V M K nc ns h (pc + 3) (a0 :: a1 :: some (.inl v) :: L) st) : tc_V M K nc ns h pc (a0 :: a1 :: some (.inl x) :: L) st := tv_iinc hd rfl hv hn rfl k
theorem tv_istN_3 {x : Int32} {a0 a1 a2 a3 : Option tcV} (hd : decode M.1 pc = .ok (.istore_n 3, 1)) (hn : 3 < M.2.1) (k : tc_V M K nc ns h (pc + 1) (a0 :: a1 :: a2 :: some (.inl x) :: L) st) : tc_V M K nc ns h pc (a0 :: a1 :: a2 :: a3 :: L) (.inl x :: st) := tv_istore_n hd rfl hn rfl k
theorem tv_ist_3 {x : Int32} {a0 a1 a2 a3 : Option tcV} (hd : decode M.1 pc = .ok (.istore 3, 2)) (hn : 3 < M.2.1) (k : tc_V M K nc ns h (pc + 2) (a0 :: a1 :: a2 :: some (.inl x) :: L) st) : tc_V M K nc ns h pc (a0 :: a1 :: a2 :: a3 :: L) (.inl x :: st) := tv_istore hd hn rfl k
theorem tv_astN_3 {x : Nat} {a0 a1 a2 a3 : Option tcV} (hd : decode M.1 pc = .ok (.astore_n 3, 1)) (hn : 3 < M.2.1) (k : tc_V M K nc ns h (pc + 1) (a0 :: a1 :: a2 :: some (.inr (some x)) :: L) st) : tc_V M K nc ns h pc (a0 :: a1 :: a2 :: a3 :: L) (.inr (some x) :: st) := tv_astore_n hd rfl hn rfl k
theorem tv_ast_3 {x : Nat} {a0 a1 a2 a3 : Option tcV} (hd : decode M.1 pc = .ok (.astore 3, 2)) (hn : 3 < M.2.1) (k : tc_V M K nc ns h (pc + 2) (a0 :: a1 :: a2 :: some (.inr (some x)) :: L) st) : tc_V M K nc ns h pc (a0 :: a1 :: a2 :: a3 :: L) (.inr (some x) :: st) := tv_astore hd hn rfl k
theorem tv_iinc_3 {n : Int} {x v : Int32} {a0 a1 a2 : Option tcV} (hd : decode M.1 pc = .ok (.iinc 3 n, 3)) (hn : 3 < M.2.1) (hv : x + Int32.ofInt n = v) (k : tc_V M K nc ns h (pc + 3) (a0 :: a1 :: a2 :: some (.inl v) :: L) st) : tc_V M K nc ns h pc (a0 :: a1 :: a2 :: some (.inl x) :: L) st := tv_iinc hd rfl hv hn rfl k
theorem tv_ist_4 {x : Int32} {a0 a1 a2 a3 a4 : Option tcV} (hd : decode M.1 pc = .ok (.istore 4, 2)) (hn : 4 < M.2.1) (k : tc_V M K nc ns h (pc + 2) (a0 :: a1 :: a2 :: a3 :: some (.inl x) :: L) st) : tc_V M K nc ns h pc (a0 :: a1 :: a2 :: a3 :: a4 :: L) (.inl x :: st) := tv_istore hd hn rfl k
theorem tv_ast_4 {x : Nat} {a0 a1 a2 a3 a4 : Option tcV} (hd : decode M.1 pc = .ok (.astore 4, 2)) (hn : 4 < M.2.1) (k : tc_V M K nc ns h (pc + 2) (a0 :: a1 :: a2 :: a3 :: some (.inr (some x)) :: L) st) : tc_V M K nc ns h pc (a0 :: a1 :: a2 :: a3 :: a4 :: L) (.inr (some x) :: st) := tv_astore hd hn rfl k
theorem tv_iinc_4 {n : Int} {x v : Int32} {a0 a1 a2 a3 : Option tcV} (hd : decode M.1 pc = .ok (.iinc 4 n, 3)) (hn : 4 < M.2.1) (hv : x + Int32.ofInt n = v) (k : tc_V M K nc ns h (pc + 3) (a0 :: a1 :: a2 :: a3 :: some (.inl v) :: L) st) : tc_V M K nc ns h pc (a0 :: a1 :: a2 :: a3 :: some (.inl x) :: L) st := tv_iinc hd rfl hv hn rfl k
theorem tv_ist_5 {x : Int32} {a0 a1 a2 a3 a4 a5 : Option tcV} (hd : decode M.1 pc = .ok (.istore 5, 2)) (hn : 5 < M.2.1) (k : tc_V M K nc ns h (pc + 2) (a0 :: a1 :: a2 :: a3 :: a4 :: some (.inl x) :: L) st) : tc_V M K nc ns h pc (a0 :: a1 :: a2 :: a3 :: a4 :: a5 :: L) (.inl x :: st) := tv_istore hd hn rfl k
theorem tv_ast_5 {x : Nat} {a0 a1 a2 a3 a4 a5 : Option tcV} (hd : decode M.1 pc = .ok (.astore 5, 2)) (hn : 5 < M.2.1) (k : tc_V M K nc ns h (pc + 2) (a0 :: a1 :: a2 :: a3 :: a4 :: some (.inr (some x)) :: L) st) : tc_V M K nc ns h pc (a0 :: a1 :: a2 :: a3 :: a4 :: a5 :: L) (.inr (some x) :: st) := tv_astore hd hn rfl k
theorem tv_iinc_5 {n : Int} {x v : Int32} {a0 a1 a2 a3 a4 : Option tcV} (hd : decode M.1 pc = .ok (.iinc 5 n, 3)) (hn : 5 < M.2.1) (hv : x + Int32.ofInt n = v) (k : tc_V M K nc ns h (pc + 3) (a0 :: a1 :: a2 :: a3 :: a4 :: some (.inl v) :: L) st) : tc_V M K nc ns h pc (a0 :: a1 :: a2 :: a3 :: a4 :: some (.inl x) :: L) st := tv_iinc hd rfl hv hn rfl k
theorem tv_ist_6 {x : Int32} {a0 a1 a2 a3 a4 a5 a6 : Option tcV} (hd : decode M.1 pc = .ok (.istore 6, 2)) (hn : 6 < M.2.1) (k : tc_V M K nc ns h (pc + 2) (a0 :: a1 :: a2 :: a3 :: a4 :: a5 :: some (.inl x) :: L) st) : tc_V M K nc ns h pc (a0 :: a1 :: a2 :: a3 :: a4 :: a5 :: a6 :: L) (.inl x :: st) := tv_istore hd hn rfl k
theorem tv_ast_6 {x : Nat} {a0 a1 a2 a3 a4 a5 a6 : Option tcV} (hd : decode M.1 pc = .ok (.astore 6, 2)) (hn : 6 < M.2.1) (k : tc_V M K nc ns h (pc + 2) (a0 :: a1 :: a2 :: a3 :: a4 :: a5 :: some (.inr (some x)) :: L) st) : tc_V M K nc ns h pc (a0 :: a1 :: a2 :: a3 :: a4 :: a5 :: a6 :: L) (.inr (some x) :: st) := tv_astore hd hn rfl k
theorem tv_iinc_6 {n : Int} {x v : Int32} {a0 a1 a2 a3 a4 a5 : Option tcV} (hd : decode M.1 pc = .ok (.iinc 6 n, 3)) (hn : 6 < M.2.1) (hv : x + Int32.ofInt n = v) (k : tc_V M K nc ns h (pc + 3) (a0 :: a1 :: a2 :: a3 :: a4 :: a5 :: some (.inl v) :: L) st) : tc_V M K nc ns h pc (a0 :: a1 :: a2 :: a3 :: a4 :: a5 :: some (.inl x) :: L) st := tv_iinc hd rfl hv hn rfl k
theorem tv_ist_7 {x : Int32} {a0 a1 a2 a3 a4 a5 a6 a7 : Option tcV} (hd : decode M.1 pc = .ok (.istore 7, 2)) (hn : 7 < M.2.1) (k : tc_V M K nc ns h (pc + 2) (a0 :: a1 :: a2 :: a3 :: a4 :: a5 :: a6 :: some (.inl x) :: L) st) : tc_V M K nc ns h pc (a0 :: a1 :: a2 :: a3 :: a4 :: a5 :: a6 :: a7 :: L) (.inl x :: st) := tv_istore hd hn rfl k
theorem tv_ast_7 {x : Nat} {a0 a1 a2 a3 a4 a5 a6 a7 : Option tcV} (hd : decode M.1 pc = .ok (.astore 7, 2)) (hn : 7 < M.2.1) (k : tc_V M K nc ns h (pc + 2) (a0 :: a1 :: a2 :: a3 :: a4 :: a5 :: a6 :: some (.inr (some x)) :: L) st) : tc_V M K nc ns h pc (a0 :: a1 :: a2 :: a3 :: a4 :: a5 :: a6 :: a7 :: L) (.inr (some x) :: st) := tv_astore hd hn rfl k
theorem tv_iinc_7 {n : Int} {x v : Int32} {a0 a1 a2 a3 a4 a5 a6 : Option tcV} (hd : decode M.1 pc = .ok (.iinc 7 n, 3)) (hn : 7 < M.2.1) (hv : x + Int32.ofInt n = v) (k : tc_V M K nc ns h (pc + 3) (a0 :: a1 :: a2 :: a3 :: a4 :: a5 :: a6 :: some (.inl v) :: L) st) : tc_V M K nc ns h pc (a0 :: a1 :: a2 :: a3 :: a4 :: a5 :: a6 :: some (.inl x) :: L) st := tv_iinc hd rfl hv hn rfl k
theorem tv_ist_8 {x : Int32} {a0 a1 a2 a3 a4 a5 a6 a7 a8 : Option tcV} (hd : decode M.1 pc = .ok (.istore 8, 2)) (hn : 8 < M.2.1) (k : tc_V M K nc ns h (pc + 2) (a0 :: a1 :: a2 :: a3 :: a4 :: a5 :: a6 :: a7 :: some (.inl x) :: L) st) : tc_V M K nc ns h pc (a0 :: a1 :: a2 :: a3 :: a4 :: a5 :: a6 :: a7 :: a8 :: L) (.inl x :: st) := tv_istore hd hn rfl k
theorem tv_ast_8 {x : Nat} {a0 a1 a2 a3 a4 a5 a6 a7 a8 : Option tcV} (hd : decode M.1 pc = .ok (.astore 8, 2)) (hn : 8 < M.2.1) (k : tc_V M K nc ns h (pc + 2) (a0 :: a1 :: a2 :: a3 :: a4 :: a5 :: a6 :: a7 :: some (.inr (some x)) :: L) st) : tc_V M K nc ns h pc (a0 :: a1 :: a2 :: a3 :: a4 :: a5 :: a6 :: a7 :: a8 :: L) (.inr (some x) :: st) := tv_astore hd hn rfl k
theorem tv_iinc_8 {n : Int} {x v : Int32} {a0 a1 a2 a3 a4 a5 a6 a7 : Option tcV} (hd : decode M.1 pc = .ok (.iinc 8 n, 3)) (hn : 8 < M.2.1) (hv : x + Int32.ofInt n = v) (k : tc_V M K nc ns h (pc + 3) (a0 :: a1 :: a2 :: a3 :: a4 :: a5 :: a6 :: a7 :: some (.inl v) :: L) st) : tc_V M K nc ns h pc (a0 :: a1 :: a2 :: a3 :: a4 :: a5 :: a6 :: a7 :: some (.inl x) :: L) st := tv_iinc hd rfl hv hn rfl k
theorem tv_ist_9 {x : Int32} {a0 a1 a2 a3 a4 a5 a6 a7 a8 a9 : Option tcV} (hd : decode M.1 pc = .ok (.istore 9, 2)) (hn : 9 < M.2.1) (k : tc_V M K nc ns h (pc + 2) (a0 :: a1 :: a2 :: a3 :: a4 :: a5 :: a6 :: a7 :: a8 :: some (.inl x) :: L) st) : tc_V M K nc ns h pc (a0 :: a1 :: a2 :: a3 :: a4 :: a5 :: a6 :: a7 :: a8 :: a9 :: L) (.inl x :: st) := tv_istore hd hn rfl k
theorem tv_ast_9 {x : Nat} {a0 a1 a2 a3 a4 a5 a6 a7 a8 a9 : Option tcV} (hd : decode M.1 pc = .ok (.astore 9, 2)) (hn : 9 < M.2.1) (k : tc_V M K nc ns h (pc + 2) (a0 :: a1 :: a2 :: a3 :: a4 :: a5 :: a6 :: a7 :: a8 :: some (.inr (some x)) :: L) st) : tc_V M K nc ns h pc (a0 :: a1 :: a2 :: a3 :: a4 :: a5 :: a6 :: a7 :: a8 :: a9 :: L) (.inr (some x) :: st) := tv_astore hd hn rfl k
theorem tv_iinc_9 {n : Int} {x v : Int32} {a0 a1 a2 a3 a4 a5 a6 a7 a8 : Option tcV} (hd : decode M.1 pc = .ok (.iinc 9 n, 3)) (hn : 9 < M.2.1) (hv : x + Int32.ofInt n = v) (k : tc_V M K nc ns h (pc + 3) (a0 :: a1 :: a2 :: a3 :: a4 :: a5 :: a6 :: a7 :: a8 :: some (.inl v) :: L) st) : tc_V M K nc ns h pc (a0 :: a1 :: a2 :: a3 :: a4 :: a5 :: a6 :: a7 :: a8 :: some (.inl x) :: L) st := tv_iinc hd rfl hv hn rfl k
theorem tv_ist_10 {x : Int32} {a0 a1 a2 a3 a4 a5 a6 a7 a8 a9 a10 : Option tcV} (hd : decode M.1 pc = .ok (.istore 10, 2)) (hn : 10 < M.2.1) (k : tc_V M K nc ns h (pc + 2) (a0 :: a1 :: a2 :: a3 :: a4 :: a5 :: a6 :: a7 :: a8 :: a9 :: some (.inl x) :: L) st) : tc_V M K nc ns h pc (a0 :: a1 :: a2 :: a3 :: a4 :: a5 :: a6 :: a7 :: a8 :: a9 :: a10 :: L) (.inl x :: st) := tv_istore hd hn rfl k
theorem tv_ast_10 {x : Nat} {a0 a1 a2 a3 a4 a5 a6 a7 a8 a9 a10 : Option tcV} (hd : decode M.1 pc = .ok (.astore 10, 2)) (hn : 10 < M.2.1) (k : tc_V M K nc ns h (pc + 2) (a0 :: a1 :: a2 :: a3 :: a4 :: a5 :: a6 :: a7 :: a8 :: a9 :: some (.inr (some x)) :: L) st) : tc_V M K nc ns h pc (a0 :: a1 :: a2 :: a3 :: a4 :: a5 :: a6 :: a7 :: a8 :: a9 :: a10 :: L) (.inr (some x) :: st) := tv_astore hd hn rfl k
theorem tv_iinc_10 {n : Int} {x v : Int32} {a0 a1 a2 a3 a4 a5 a6 a7 a8 a9 : Option tcV} (hd : decode M.1 pc = .ok (.iinc 10 n, 3)) (hn : 10 < M.2.1) (hv : x + Int32.ofInt n = v) (k : tc_V M K nc ns h (pc + 3) (a0 :: a1 :: a2 :: a3 :: a4 :: a5 :: a6 :: a7 :: a8 :: a9 :: some (.inl v) :: L) st) : tc_V M K nc ns h pc (a0 :: a1 :: a2 :: a3 :: a4 :: a5 :: a6 :: a7 :: a8 :: a9 :: some (.inl x) :: L) st := tv_iinc hd rfl hv hn rfl k
theorem tv_ist_11 {x : Int32} {a0 a1 a2 a3 a4 a5 a6 a7 a8 a9 a10 a11 : Option tcV} (hd : decode M.1 pc = .ok (.istore 11, 2)) (hn : 11 < M.2.1) (k : tc_V M K nc ns h (pc + 2) (a0 :: a1 :: a2 :: a3 :: a4 :: a5 :: a6 :: a7 :: a8 :: a9 :: a10 :: some (.inl x) :: L) st) : tc_V M K nc ns h pc (a0 :: a1 :: a2 :: a3 :: a4 :: a5 :: a6 :: a7 :: a8 :: a9 :: a10 :: a11 :: L) (.inl x :: st) := tv_istore hd hn rfl k
theorem tv_ast_11 {x : Nat} {a0 a1 a2 a3 a4 a5 a6 a7 a8 a9 a10 a11 : Option tcV} (hd : decode M.1 pc = .ok (.astore 11, 2)) (hn : 11 < M.2.1) (k : tc_V M K nc ns h (pc + 2) (a0 :: a1 :: a2 :: a3 :: a4 :: a5 :: a6 :: a7 :: a8 :: a9 :: a10 :: some (.inr (some x)) :: L) st) : tc_V M K nc ns h pc (a0 :: a1 :: a2 :: a3 :: a4 :: a5 :: a6 :: a7 :: a8 :: a9 :: a10 :: a11 :: L) (.inr (some x) :: st) := tv_astore hd hn rfl k
theorem tv_iinc_11 {n : Int} {x v : Int32} {a0 a1 a2 a3 a4 a5 a6 a7 a8 a9 a10 : Option tcV} (hd : decode M.1 pc = .ok (.iinc 11 n, 3)) (hn : 11 < M.2.1) (hv : x + Int32.ofInt n = v) (k : tc_V M K nc ns h (pc + 3) (a0 :: a1 :: a2 :: a3 :: a4 :: a5 :: a6 :: a7 :: a8 :: a9 :: a10 :: some (.inl v) :: L) st) : tc_V M K nc ns h pc (a0 :: a1 :: a2 :: a3 :: a4 :: a5 :: a6 :: a7 :: a8 :: a9 :: a10 :: some (.inl x) :: L) st := tv_iinc hd rfl hv hn rfl k
theorem tv_ist_12 {x : Int32} {a0 a1 a2 a3 a4 a5 a6 a7 a8 a9 a10 a11 a12 : Option tcV} (hd : decode M.1 pc = .ok (.istore 12, 2)) (hn : 12 < M.2.1) (k : tc_V M K nc ns h (pc + 2) (a0 :: a1 :: a2 :: a3 :: a4 :: a5 :: a6 :: a7 :: a8 :: a9 :: a10 :: a11 :: some (.inl x) :: L) st) : tc_V M K nc ns h pc (a0 :: a1 :: a2 :: a3 :: a4 :: a5 :: a6 :: a7 :: a8 :: a9 :: a10 :: a11 :: a12 :: L) (.inl x :: st) := tv_istore hd hn rfl k
theorem tv_ast_12 {x : Nat} {a0 a1 a2 a3 a4 a5 a6 a7 a8 a9 a10 a11 a12 : Option tcV} (hd : decode M.1 pc = .ok (.astore 12, 2)) (hn : 12 < M.2.1) (k : tc_V M K nc ns h (pc + 2) (a0 :: a1 :: a2 :: a3 :: a4 :: a5 :: a6 :: a7 :: a8 :: a9 :: a10 :: a11 :: some (.inr (some x)) :: L) st) : tc_V M K nc ns h pc (a0 :: a1 :: a2 :: a3 :: a4 :: a5 :: a6 :: a7 :: a8 :: a9 :: a10 :: a11 :: a12 :: L) (.inr (some x) :: st) := tv_astore hd hn rfl k
theorem tv_iinc_12 {n : Int} {x v : Int32} {a0 a1 a2 a3 a4 a5 a6 a7 a8 a9 a10 a11 : Option tcV} (hd : decode M.1 pc = .ok (.iinc 12 n, 3)) (hn : 12 < M.2.1) (hv : x + Int32.ofInt n = v) (k : tc_V M K nc ns h (pc + 3) (a0 :: a1 :: a2 :: a3 :: a4 :: a5 :: a6 :: a7 :: a8 :: a9 :: a10 :: a11 :: some (.inl v) :: L) st) : tc_V M K nc ns h pc (a0 :: a1 :: a2 :: a3 :: a4 :: a5 :: a6 :: a7 :: a8 :: a9 :: a10 :: a11 :: some (.inl x) :: L) st := tv_iinc hd rfl hv hn rfl k
theorem tv_fg {k : Nat} {L' : List (Option tcV)} (hl : L.set k none = L') (kk : tc_V M K nc ns h pc L' st) : tc_V M K nc ns h pc L st := by
  intro l p e s m args below meth c D tg ad0 ad B hG H locs ls hP hD hS hL
  refine kk l p e s m args below meth c D tg ad0 ad B hG H locs ls hP hD hS ⟨hL.1, hL.2.1, fun i v hi => hL.2.2 i v ?_⟩
  subst hl
  by_cases hik : k = i
  · subst hik
    by_cases hlt : k < L.length
    · rw [List.getElem?_set_self hlt] at hi
      cases hi
    · rw [List.getElem?_eq_none (by simpa using Nat.not_lt.mp hlt)] at hi
      cases hi
  · rw [List.getElem?_set_ne hik] at hi
    exact hi
theorem tv_fg_0 {a0 : Option tcV} (kk : tc_V M K nc ns h pc (none :: L) st) : tc_V M K nc ns h pc (a0 :: L) st := tv_fg (k := 0) rfl kk
theorem tv_fg_1 {a0 a1 : Option tcV} (kk : tc_V M K nc ns h pc (a0 :: none :: L) st) : tc_V M K nc ns h pc (a0 :: a1 :: L) st := tv_fg (k := 1) rfl kk
theorem tv_fg_2 {a0 a1 a2 : Option tcV} (kk : tc_V M K nc ns h pc (a0 :: a1 :: none :: L) st) : tc_V M K nc ns h pc (a0 :: a1 :: a2 :: L) st := tv_fg (k := 2) rfl kk
theorem tv_fg_3 {a0 a1 a2 a3 : Option tcV} (kk : tc_V M K nc ns h pc (a0 :: a1 :: a2 :: none :: L) st) : tc_V M K nc ns h pc (a0 :: a1 :: a2 :: a3 :: L) st := tv_fg (k := 3) rfl kk
theorem tv_fg_4 {a0 a1 a2 a3 a4 : Option tcV} (kk : tc_V M K nc ns h pc (a0 :: a1 :: a2 :: a3 :: none :: L) st) : tc_V M K nc ns h pc (a0 :: a1 :: a2 :: a3 :: a4 :: L) st := tv_fg (k := 4) rfl kk
theorem tv_fg_5 {a0 a1 a2 a3 a4 a5 : Option tcV} (kk : tc_V M K nc ns h pc (a0 :: a1 :: a2 :: a3 :: a4 :: none :: L) st) : tc_V M K nc ns h pc (a0 :: a1 :: a2 :: a3 :: a4 :: a5 :: L) st := tv_fg (k := 5) rfl kk
theorem tv_fg_6 {a0 a1 a2 a3 a4 a5 a6 : Option tcV} (kk : tc_V M K nc ns h pc (a0 :: a1 :: a2 :: a3 :: a4 :: a5 :: none :: L) st) : tc_V M K nc ns h pc (a0 :: a1 :: a2 :: a3 :: a4 :: a5 :: a6 :: L) st := tv_fg (k := 6) rfl kk
theorem tv_fg_7 {a0 a1 a2 a3 a4 a5 a6 a7 : Option tcV} (kk : tc_V M K nc ns h pc (a0 :: a1 :: a2 :: a3 :: a4 :: a5 :: a6 :: none :: L) st) : tc_V M K nc ns h pc (a0 :: a1 :: a2 :: a3 :: a4 :: a5 :: a6 :: a7 :: L) st := tv_fg (k := 7) rfl kk
theorem tv_fg_8 {a0 a1 a2 a3 a4 a5 a6 a7 a8 : Option tcV} (kk : tc_V M K nc ns h pc (a0 :: a1 :: a2 :: a3 :: a4 :: a5 :: a6 :: a7 :: none :: L) st) : tc_V M K nc ns h pc (a0 :: a1 :: a2 :: a3 :: a4 :: a5 :: a6 :: a7 :: a8 :: L) st := tv_fg (k := 8) rfl kk
theorem tv_fg_9 {a0 a1 a2 a3 a4 a5 a6 a7 a8 a9 : Option tcV} (kk : tc_V M K nc ns h pc (a0 :: a1 :: a2 :: a3 :: a4 :: a5 :: a6 :: a7 :: a8 :: none :: L) st) : tc_V M K nc ns h pc (a0 :: a1 :: a2 :: a3 :: a4 :: a5 :: a6 :: a7 :: a8 :: a9 :: L) st := tv_fg (k := 9) rfl kk
theorem tv_fg_10 {a0 a1 a2 a3 a4 a5 a6 a7 a8 a9 a10 : Option tcV} (kk : tc_V M K nc ns h pc (a0 :: a1 :: a2 :: a3 :: a4 :: a5 :: a6 :: a7 :: a8 :: a9 :: none :: L) st) : tc_V M K nc ns h pc (a0 :: a1 :: a2 :: a3 :: a4 :: a5 :: a6 :: a7 :: a8 :: a9 :: a10 :: L) st := tv_fg (k := 10) rfl kk
theorem tv_fg_11 {a0 a1 a2 a3 a4 a5 a6 a7 a8 a9 a10 a11 : Option tcV} (kk : tc_V M K nc ns h pc (a0 :: a1 :: a2 :: a3 :: a4 :: a5 :: a6 :: a7 :: a8 :: a9 :: a10 :: none :: L) st) : tc_V M K nc ns h pc (a0 :: a1 :: a2 :: a3 :: a4 :: a5 :: a6 :: a7 :: a8 :: a9 :: a10 :: a11 :: L) st := tv_fg (k := 11) rfl kk
theorem tv_fg_12 {a0 a1 a2 a3 a4 a5 a6 a7 a8 a9 a10 a11 a12 : Option tcV} (kk : tc_V M K nc ns h pc (a0 :: a1 :: a2 :: a3 :: a4 :: a5 :: a6 :: a7 :: a8 :: a9 :: a10 :: a11 :: none :: L) st) : tc_V M K nc ns h pc (a0 :: a1 :: a2 :: a3 :: a4 :: a5 :: a6 :: a7 :: a8 :: a9 :: a10 :: a11 :: a12 :: L) st := tv_fg (k := 12) rfl kk
theorem tv_ialdN {q n t : Nat} {f : Nat → Int32} (hd : decode M.1 pc = .ok (.iaload, 1)) (he : h[q]? = some (.inl (0, n, .inl f))) (hN : n < 2 ^ 31) (ht : t < n) (k : tc_V M K nc ns h (pc + 1) L (.inl (f t) :: st)) : tc_V M K nc ns h pc L (.inl (nI t) :: .inr (some q) :: st) := tv_iald hd he (vp_in_nI ht hN) (by rw [nI_clamp (by omega)]; exact k)
theorem tv_zaldN {q n t : Nat} {f : Nat → Int32} (hd : decode M.1 pc = .ok (.baload, 1)) (he : h[q]? = some (.inl (1, n, .inl f))) (hN : n < 2 ^ 31) (ht : t < n) (k : tc_V M K nc ns h (pc + 1) L (.inl (f t) :: st)) : tc_V M K nc ns h pc L (.inl (nI t) :: .inr (some q) :: st) := tv_zald hd he (vp_in_nI ht hN) (by rw [nI_clamp (by omega)]; exact k)
theorem tv_iastN {q n t : Nat} {f : Nat → Int32} {x : Int32} {h' : List tcC} (hd : decode M.1 pc = .ok (.iastore, 1)) (he : h[q]? = some (.inl (0, n, .inl f))) (hN : n < 2 ^ 31) (ht : t < n) (hh : h.set q (.inl (0, n, .inl (upd f t x))) = h') (k : tc_V M K nc ns h' (pc + 1) L st) : tc_V M K nc ns h pc L (.inl x :: .inl (nI t) :: .inr (some q) :: st) := tv_iast hd he (vp_in_nI ht hN) (by rw [nI_clamp (by omega)]; exact hh) k
theorem tv_zastN {q n t : Nat} {f : Nat → Int32} {x : Int32} {h' : List tcC} (hd : decode M.1 pc = .ok (.bastore, 1)) (he : h[q]? = some (.inl (1, n, .inl f))) (hN : n < 2 ^ 31) (ht : t < n) (hx : vp_nar .boolean x = x) (hh : h.set q (.inl (1, n, .inl (upd f t x))) = h') (k : tc_V M K nc ns h' (pc + 1) L st) : tc_V M K nc ns h pc L (.inl x :: .inl (nI t) :: .inr (some q) :: st) := tv_zast hd he (vp_in_nI ht hN) (by rw [nI_clamp (by omega), hx]; exact hh) k
/-- all that a call by entry idx of class own needs of the tables -/
def tc_KS (own : String) (idx : Nat) (y : MethodName) (cc : ByteArray) (nL : Nat) (ret : Option FieldType) (n : Nat) : Prop := tc_Y y cc nL ret n ∧ Cond.methodLink own idx y ∈ tc_T ∧ Cond.static y ∈ tc_T
def tc_KV (own : String) (idx : Nat) (y : MethodName) (cc : ByteArray) (nL : Nat) (ret : Option FieldType) (n ci : Nat) (T : u_T) (N : Nat) : Prop := tc_Y y cc nL ret n ∧ Cond.methodLink own idx y ∈ tc_T ∧ Cond.instanceMethod y ∈ tc_T ∧ Cond.selects y.cls y y ∈ tc_T ∧ vwCl[ci]? = some (y.cls, T, N)
def tc_KN (own : String) (idx : Nat) (y : MethodName) (cc : ByteArray) (nL : Nat) (ret : Option FieldType) (n ci : Nat) (T : u_T) (N : Nat) (host : String) : Prop := tc_Y y cc nL ret n ∧ (own, idx, y, host) ∈ tc_nest ∧ Cond.instanceMethod y ∈ tc_T ∧ Cond.selects y.cls y y ∈ tc_T ∧ vwCl[ci]? = some (y.cls, T, N)
theorem tv_callS0r {h' : List tcC} {rest : List tcV} {y : MethodName} {cc : ByteArray} {nL idx d' : Nat} {ret : Option FieldType}  {v : tcV} (hK : tc_KS M.2.2.1 idx y cc nL ret 0) (hdd : d' < M.2.2.2.2.1) (hrest : rest.length ≤ 8) (hw : tc_okL h.length L = true ∧ tc_okS h.length rest = true) (hM : tc_M y cc nL ret d' [] (h, some v, h', 0, 0)) (hcs : nc ≤ K.2.2.2.1 ∧ ns ≤ K.2.2.2.2) (hd : decode M.1 pc = .ok (.invokestatic idx, 3)) (k : tc_V M K nc ns h' (pc + 3) L (v :: rest)) : tc_V M K nc ns h pc L (rest) := tv_callS [] hM hK.1 hK.2.1 hK.2.2 hdd rfl rfl hrest hw hd hcs k
theorem tv_callV0r {h' : List tcC} {rest : List tcV} {y : MethodName} {cc : ByteArray} {nL idx d' : Nat} {ret : Option FieldType}  {v : tcV} {q ci N : Nat} {T : u_T} {fs : List tcV} (hK : tc_KV M.2.2.1 idx y cc nL ret 0 ci T N) (hdd : d' < M.2.2.2.2.1) (hrest : rest.length ≤ 8) (hw : tc_okL h.length L = true ∧ tc_okS h.length rest = true) (he : h[q]? = some (.inr (ci, fs))) (hM : tc_M y cc nL ret d' (.inr (some q) :: []) (h, some v, h', 0, 0)) (hcs : nc ≤ K.2.2.2.1 ∧ ns ≤ K.2.2.2.2) (hd : decode M.1 pc = .ok (.invokevirtual idx, 3)) (k : tc_V M K nc ns h' (pc + 3) L (v :: rest)) : tc_V M K nc ns h pc L (.inr (some q) :: rest) := tv_callV [] hM hK.1 hK.2.1 hK.2.2.1 hK.2.2.2.1 he hK.2.2.2.2 hdd rfl rfl hrest hw hd hcs k
theorem tv_callN0r {h' : List tcC} {rest : List tcV} {y : MethodName} {cc : ByteArray} {nL idx d' : Nat} {ret : Option FieldType}  {v : tcV} {q ci N : Nat} {T : u_T} {fs : List tcV} {host : String} (hK : tc_KN M.2.2.1 idx y cc nL ret 0 ci T N host) (hdd : d' < M.2.2.2.2.1) (hrest : rest.length ≤ 8) (hw : tc_okL h.length L = true ∧ tc_okS h.length rest = true) (he : h[q]? = some (.inr (ci, fs))) (hM : tc_M y cc nL ret d' (.inr (some q) :: []) (h, some v, h', 0, 0)) (hcs : nc ≤ K.2.2.2.1 ∧ ns ≤ K.2.2.2.2) (hd : decode M.1 pc = .ok (.invokevirtual idx, 3)) (k : tc_V M K nc ns h' (pc + 3) L (v :: rest)) : tc_V M K nc ns h pc L (.inr (some q) :: rest) := tv_callN [] hM hK.1 hK.2.1 hK.2.2.1 hK.2.2.2.1 he hK.2.2.2.2 hdd rfl rfl hrest hw hd hcs k
theorem tv_callS0v {h' : List tcC} {rest : List tcV} {y : MethodName} {cc : ByteArray} {nL idx d' : Nat} {ret : Option FieldType}   (hK : tc_KS M.2.2.1 idx y cc nL ret 0) (hdd : d' < M.2.2.2.2.1) (hrest : rest.length ≤ 8) (hw : tc_okL h.length L = true ∧ tc_okS h.length rest = true) (hM : tc_M y cc nL ret d' [] (h, none, h', 0, 0)) (hcs : nc ≤ K.2.2.2.1 ∧ ns ≤ K.2.2.2.2) (hd : decode M.1 pc = .ok (.invokestatic idx, 3)) (k : tc_V M K nc ns h' (pc + 3) L (rest)) : tc_V M K nc ns h pc L (rest) := tv_callS [] hM hK.1 hK.2.1 hK.2.2 hdd rfl rfl hrest hw hd hcs k
theorem tv_callV0v {h' : List tcC} {rest : List tcV} {y : MethodName} {cc : ByteArray} {nL idx d' : Nat} {ret : Option FieldType}   {q ci N : Nat} {T : u_T} {fs : List tcV} (hK : tc_KV M.2.2.1 idx y cc nL ret 0 ci T N) (hdd : d' < M.2.2.2.2.1) (hrest : rest.length ≤ 8) (hw : tc_okL h.length L = true ∧ tc_okS h.length rest = true) (he : h[q]? = some (.inr (ci, fs))) (hM : tc_M y cc nL ret d' (.inr (some q) :: []) (h, none, h', 0, 0)) (hcs : nc ≤ K.2.2.2.1 ∧ ns ≤ K.2.2.2.2) (hd : decode M.1 pc = .ok (.invokevirtual idx, 3)) (k : tc_V M K nc ns h' (pc + 3) L (rest)) : tc_V M K nc ns h pc L (.inr (some q) :: rest) := tv_callV [] hM hK.1 hK.2.1 hK.2.2.1 hK.2.2.2.1 he hK.2.2.2.2 hdd rfl rfl hrest hw hd hcs k
theorem tv_callN0v {h' : List tcC} {rest : List tcV} {y : MethodName} {cc : ByteArray} {nL idx d' : Nat} {ret : Option FieldType}   {q ci N : Nat} {T : u_T} {fs : List tcV} {host : String} (hK : tc_KN M.2.2.1 idx y cc nL ret 0 ci T N host) (hdd : d' < M.2.2.2.2.1) (hrest : rest.length ≤ 8) (hw : tc_okL h.length L = true ∧ tc_okS h.length rest = true) (he : h[q]? = some (.inr (ci, fs))) (hM : tc_M y cc nL ret d' (.inr (some q) :: []) (h, none, h', 0, 0)) (hcs : nc ≤ K.2.2.2.1 ∧ ns ≤ K.2.2.2.2) (hd : decode M.1 pc = .ok (.invokevirtual idx, 3)) (k : tc_V M K nc ns h' (pc + 3) L (rest)) : tc_V M K nc ns h pc L (.inr (some q) :: rest) := tv_callN [] hM hK.1 hK.2.1 hK.2.2.1 hK.2.2.2.1 he hK.2.2.2.2 hdd rfl rfl hrest hw hd hcs k
theorem tv_callS1r {h' : List tcC} {rest : List tcV} {y : MethodName} {cc : ByteArray} {nL idx d' : Nat} {ret : Option FieldType} {b0 : tcV} {v : tcV} (hK : tc_KS M.2.2.1 idx y cc nL ret 1) (hdd : d' < M.2.2.2.2.1) (hrest : rest.length ≤ 8) (hw : tc_okL h.length L = true ∧ tc_okS h.length rest = true) (hM : tc_M y cc nL ret d' [b0] (h, some v, h', 0, 0)) (hcs : nc ≤ K.2.2.2.1 ∧ ns ≤ K.2.2.2.2) (hd : decode M.1 pc = .ok (.invokestatic idx, 3)) (k : tc_V M K nc ns h' (pc + 3) L (v :: rest)) : tc_V M K nc ns h pc L (b0 :: rest) := tv_callS [b0] hM hK.1 hK.2.1 hK.2.2 hdd rfl rfl hrest hw hd hcs k
theorem tv_callV1r {h' : List tcC} {rest : List tcV} {y : MethodName} {cc : ByteArray} {nL idx d' : Nat} {ret : Option FieldType} {b0 : tcV} {v : tcV} {q ci N : Nat} {T : u_T} {fs : List tcV} (hK : tc_KV M.2.2.1 idx y cc nL ret 1 ci T N) (hdd : d' < M.2.2.2.2.1) (hrest : rest.length ≤ 8) (hw : tc_okL h.length L = true ∧ tc_okS h.length rest = true) (he : h[q]? = some (.inr (ci, fs))) (hM : tc_M y cc nL ret d' (.inr (some q) :: [b0]) (h, some v, h', 0, 0)) (hcs : nc ≤ K.2.2.2.1 ∧ ns ≤ K.2.2.2.2) (hd : decode M.1 pc = .ok (.invokevirtual idx, 3)) (k : tc_V M K nc ns h' (pc + 3) L (v :: rest)) : tc_V M K nc ns h pc L (b0 :: .inr (some q) :: rest) := tv_callV [b0] hM hK.1 hK.2.1 hK.2.2.1 hK.2.2.2.1 he hK.2.2.2.2 hdd rfl rfl hrest hw hd hcs k
theorem tv_callN1r {h' : List tcC} {rest : List tcV} {y : MethodName} {cc : ByteArray} {nL idx d' : Nat} {ret : Option FieldType} {b0 : tcV} {v : tcV} {q ci N : Nat} {T : u_T} {fs : List tcV} {host : String} (hK : tc_KN M.2.2.1 idx y cc nL ret 1 ci T N host) (hdd : d' < M.2.2.2.2.1) (hrest : rest.length ≤ 8) (hw : tc_okL h.length L = true ∧ tc_okS h.length rest = true) (he : h[q]? = some (.inr (ci, fs))) (hM : tc_M y cc nL ret d' (.inr (some q) :: [b0]) (h, some v, h', 0, 0)) (hcs : nc ≤ K.2.2.2.1 ∧ ns ≤ K.2.2.2.2) (hd : decode M.1 pc = .ok (.invokevirtual idx, 3)) (k : tc_V M K nc ns h' (pc + 3) L (v :: rest)) : tc_V M K nc ns h pc L (b0 :: .inr (some q) :: rest) := tv_callN [b0] hM hK.1 hK.2.1 hK.2.2.1 hK.2.2.2.1 he hK.2.2.2.2 hdd rfl rfl hrest hw hd hcs k
theorem tv_callS1v {h' : List tcC} {rest : List tcV} {y : MethodName} {cc : ByteArray} {nL idx d' : Nat} {ret : Option FieldType} {b0 : tcV}  (hK : tc_KS M.2.2.1 idx y cc nL ret 1) (hdd : d' < M.2.2.2.2.1) (hrest : rest.length ≤ 8) (hw : tc_okL h.length L = true ∧ tc_okS h.length rest = true) (hM : tc_M y cc nL ret d' [b0] (h, none, h', 0, 0)) (hcs : nc ≤ K.2.2.2.1 ∧ ns ≤ K.2.2.2.2) (hd : decode M.1 pc = .ok (.invokestatic idx, 3)) (k : tc_V M K nc ns h' (pc + 3) L (rest)) : tc_V M K nc ns h pc L (b0 :: rest) := tv_callS [b0] hM hK.1 hK.2.1 hK.2.2 hdd rfl rfl hrest hw hd hcs k
theorem tv_callV1v {h' : List tcC} {rest : List tcV} {y : MethodName} {cc : ByteArray} {nL idx d' : Nat} {ret : Option FieldType} {b0 : tcV}  {q ci N : Nat} {T : u_T} {fs : List tcV} (hK : tc_KV M.2.2.1 idx y cc nL ret 1 ci T N) (hdd : d' < M.2.2.2.2.1) (hrest : rest.length ≤ 8) (hw : tc_okL h.length L = true ∧ tc_okS h.length rest = true) (he : h[q]? = some (.inr (ci, fs))) (hM : tc_M y cc nL ret d' (.inr (some q) :: [b0]) (h, none, h', 0, 0)) (hcs : nc ≤ K.2.2.2.1 ∧ ns ≤ K.2.2.2.2) (hd : decode M.1 pc = .ok (.invokevirtual idx, 3)) (k : tc_V M K nc ns h' (pc + 3) L (rest)) : tc_V M K nc ns h pc L (b0 :: .inr (some q) :: rest) := tv_callV [b0] hM hK.1 hK.2.1 hK.2.2.1 hK.2.2.2.1 he hK.2.2.2.2 hdd rfl rfl hrest hw hd hcs k
theorem tv_callN1v {h' : List tcC} {rest : List tcV} {y : MethodName} {cc : ByteArray} {nL idx d' : Nat} {ret : Option FieldType} {b0 : tcV}  {q ci N : Nat} {T : u_T} {fs : List tcV} {host : String} (hK : tc_KN M.2.2.1 idx y cc nL ret 1 ci T N host) (hdd : d' < M.2.2.2.2.1) (hrest : rest.length ≤ 8) (hw : tc_okL h.length L = true ∧ tc_okS h.length rest = true) (he : h[q]? = some (.inr (ci, fs))) (hM : tc_M y cc nL ret d' (.inr (some q) :: [b0]) (h, none, h', 0, 0)) (hcs : nc ≤ K.2.2.2.1 ∧ ns ≤ K.2.2.2.2) (hd : decode M.1 pc = .ok (.invokevirtual idx, 3)) (k : tc_V M K nc ns h' (pc + 3) L (rest)) : tc_V M K nc ns h pc L (b0 :: .inr (some q) :: rest) := tv_callN [b0] hM hK.1 hK.2.1 hK.2.2.1 hK.2.2.2.1 he hK.2.2.2.2 hdd rfl rfl hrest hw hd hcs k
theorem tv_callS2r {h' : List tcC} {rest : List tcV} {y : MethodName} {cc : ByteArray} {nL idx d' : Nat} {ret : Option FieldType} {b0 b1 : tcV} {v : tcV} (hK : tc_KS M.2.2.1 idx y cc nL ret 2) (hdd : d' < M.2.2.2.2.1) (hrest : rest.length ≤ 8) (hw : tc_okL h.length L = true ∧ tc_okS h.length rest = true) (hM : tc_M y cc nL ret d' [b0, b1] (h, some v, h', 0, 0)) (hcs : nc ≤ K.2.2.2.1 ∧ ns ≤ K.2.2.2.2) (hd : decode M.1 pc = .ok (.invokestatic idx, 3)) (k : tc_V M K nc ns h' (pc + 3) L (v :: rest)) : tc_V M K nc ns h pc L (b1 :: b0 :: rest) := tv_callS [b0, b1] hM hK.1 hK.2.1 hK.2.2 hdd rfl rfl hrest hw hd hcs k
theorem tv_callV2r {h' : List tcC} {rest : List tcV} {y : MethodName} {cc : ByteArray} {nL idx d' : Nat} {ret : Option FieldType} {b0 b1 : tcV} {v : tcV} {q ci N : Nat} {T : u_T} {fs : List tcV} (hK : tc_KV M.2.2.1 idx y cc nL ret 2 ci T N) (hdd : d' < M.2.2.2.2.1) (hrest : rest.length ≤ 8) (hw : tc_okL h.length L = true ∧ tc_okS h.length rest = true) (he : h[q]? = some (.inr (ci, fs))) (hM : tc_M y cc nL ret d' (.inr (some q) :: [b0, b1]) (h, some v, h', 0, 0)) (hcs : nc ≤ K.2.2.2.1 ∧ ns ≤ K.2.2.2.2) (hd : decode M.1 pc = .ok (.invokevirtual idx, 3)) (k : tc_V M K nc ns h' (pc + 3) L (v :: rest)) : tc_V M K nc ns h pc L (b1 :: b0 :: .inr (some q) :: rest) := tv_callV [b0, b1] hM hK.1 hK.2.1 hK.2.2.1 hK.2.2.2.1 he hK.2.2.2.2 hdd rfl rfl hrest hw hd hcs k
theorem tv_callN2r {h' : List tcC} {rest : List tcV} {y : MethodName} {cc : ByteArray} {nL idx d' : Nat} {ret : Option FieldType} {b0 b1 : tcV} {v : tcV} {q ci N : Nat} {T : u_T} {fs : List tcV} {host : String} (hK : tc_KN M.2.2.1 idx y cc nL ret 2 ci T N host) (hdd : d' < M.2.2.2.2.1) (hrest : rest.length ≤ 8) (hw : tc_okL h.length L = true ∧ tc_okS h.length rest = true) (he : h[q]? = some (.inr (ci, fs))) (hM : tc_M y cc nL ret d' (.inr (some q) :: [b0, b1]) (h, some v, h', 0, 0)) (hcs : nc ≤ K.2.2.2.1 ∧ ns ≤ K.2.2.2.2) (hd : decode M.1 pc = .ok (.invokevirtual idx, 3)) (k : tc_V M K nc ns h' (pc + 3) L (v :: rest)) : tc_V M K nc ns h pc L (b1 :: b0 :: .inr (some q) :: rest) := tv_callN [b0, b1] hM hK.1 hK.2.1 hK.2.2.1 hK.2.2.2.1 he hK.2.2.2.2 hdd rfl rfl hrest hw hd hcs k
theorem tv_callS2v {h' : List tcC} {rest : List tcV} {y : MethodName} {cc : ByteArray} {nL idx d' : Nat} {ret : Option FieldType} {b0 b1 : tcV}  (hK : tc_KS M.2.2.1 idx y cc nL ret 2) (hdd : d' < M.2.2.2.2.1) (hrest : rest.length ≤ 8) (hw : tc_okL h.length L = true ∧ tc_okS h.length rest = true) (hM : tc_M y cc nL ret d' [b0, b1] (h, none, h', 0, 0)) (hcs : nc ≤ K.2.2.2.1 ∧ ns ≤ K.2.2.2.2) (hd : decode M.1 pc = .ok (.invokestatic idx, 3)) (k : tc_V M K nc ns h' (pc + 3) L (rest)) : tc_V M K nc ns h pc L (b1 :: b0 :: rest) := tv_callS [b0, b1] hM hK.1 hK.2.1 hK.2.2 hdd rfl rfl hrest hw hd hcs k
theorem tv_callV2v {h' : List tcC} {rest : List tcV} {y : MethodName} {cc : ByteArray} {nL idx d' : Nat} {ret : Option FieldType} {b0 b1 : tcV}  {q ci N : Nat} {T : u_T} {fs : List tcV} (hK : tc_KV M.2.2.1 idx y cc nL ret 2 ci T N) (hdd : d' < M.2.2.2.2.1) (hrest : rest.length ≤ 8) (hw : tc_okL h.length L = true ∧ tc_okS h.length rest = true) (he : h[q]? = some (.inr (ci, fs))) (hM : tc_M y cc nL ret d' (.inr (some q) :: [b0, b1]) (h, none, h', 0, 0)) (hcs : nc ≤ K.2.2.2.1 ∧ ns ≤ K.2.2.2.2) (hd : decode M.1 pc = .ok (.invokevirtual idx, 3)) (k : tc_V M K nc ns h' (pc + 3) L (rest)) : tc_V M K nc ns h pc L (b1 :: b0 :: .inr (some q) :: rest) := tv_callV [b0, b1] hM hK.1 hK.2.1 hK.2.2.1 hK.2.2.2.1 he hK.2.2.2.2 hdd rfl rfl hrest hw hd hcs k
theorem tv_callN2v {h' : List tcC} {rest : List tcV} {y : MethodName} {cc : ByteArray} {nL idx d' : Nat} {ret : Option FieldType} {b0 b1 : tcV}  {q ci N : Nat} {T : u_T} {fs : List tcV} {host : String} (hK : tc_KN M.2.2.1 idx y cc nL ret 2 ci T N host) (hdd : d' < M.2.2.2.2.1) (hrest : rest.length ≤ 8) (hw : tc_okL h.length L = true ∧ tc_okS h.length rest = true) (he : h[q]? = some (.inr (ci, fs))) (hM : tc_M y cc nL ret d' (.inr (some q) :: [b0, b1]) (h, none, h', 0, 0)) (hcs : nc ≤ K.2.2.2.1 ∧ ns ≤ K.2.2.2.2) (hd : decode M.1 pc = .ok (.invokevirtual idx, 3)) (k : tc_V M K nc ns h' (pc + 3) L (rest)) : tc_V M K nc ns h pc L (b1 :: b0 :: .inr (some q) :: rest) := tv_callN [b0, b1] hM hK.1 hK.2.1 hK.2.2.1 hK.2.2.2.1 he hK.2.2.2.2 hdd rfl rfl hrest hw hd hcs k
theorem tv_callS3r {h' : List tcC} {rest : List tcV} {y : MethodName} {cc : ByteArray} {nL idx d' : Nat} {ret : Option FieldType} {b0 b1 b2 : tcV} {v : tcV} (hK : tc_KS M.2.2.1 idx y cc nL ret 3) (hdd : d' < M.2.2.2.2.1) (hrest : rest.length ≤ 8) (hw : tc_okL h.length L = true ∧ tc_okS h.length rest = true) (hM : tc_M y cc nL ret d' [b0, b1, b2] (h, some v, h', 0, 0)) (hcs : nc ≤ K.2.2.2.1 ∧ ns ≤ K.2.2.2.2) (hd : decode M.1 pc = .ok (.invokestatic idx, 3)) (k : tc_V M K nc ns h' (pc + 3) L (v :: rest)) : tc_V M K nc ns h pc L (b2 :: b1 :: b0 :: rest) := tv_callS [b0, b1, b2] hM hK.1 hK.2.1 hK.2.2 hdd rfl rfl hrest hw hd hcs k
theorem tv_callV3r {h' : List tcC} {rest : List tcV} {y : MethodName} {cc : ByteArray} {nL idx d' : Nat} {ret : Option FieldType} {b0 b1 b2 : tcV} {v : tcV} {q ci N : Nat} {T : u_T} {fs : List tcV} (hK : tc_KV M.2.2.1 idx y cc nL ret 3 ci T N) (hdd : d' < M.2.2.2.2.1) (hrest : rest.length ≤ 8) (hw : tc_okL h.length L = true ∧ tc_okS h.length rest = true) (he : h[q]? = some (.inr (ci, fs))) (hM : tc_M y cc nL ret d' (.inr (some q) :: [b0, b1, b2]) (h, some v, h', 0, 0)) (hcs : nc ≤ K.2.2.2.1 ∧ ns ≤ K.2.2.2.2) (hd : decode M.1 pc = .ok (.invokevirtual idx, 3)) (k : tc_V M K nc ns h' (pc + 3) L (v :: rest)) : tc_V M K nc ns h pc L (b2 :: b1 :: b0 :: .inr (some q) :: rest) := tv_callV [b0, b1, b2] hM hK.1 hK.2.1 hK.2.2.1 hK.2.2.2.1 he hK.2.2.2.2 hdd rfl rfl hrest hw hd hcs k
theorem tv_callN3r {h' : List tcC} {rest : List tcV} {y : MethodName} {cc : ByteArray} {nL idx d' : Nat} {ret : Option FieldType} {b0 b1 b2 : tcV} {v : tcV} {q ci N : Nat} {T : u_T} {fs : List tcV} {host : String} (hK : tc_KN M.2.2.1 idx y cc nL ret 3 ci T N host) (hdd : d' < M.2.2.2.2.1) (hrest : rest.length ≤ 8) (hw : tc_okL h.length L = true ∧ tc_okS h.length rest = true) (he : h[q]? = some (.inr (ci, fs))) (hM : tc_M y cc nL ret d' (.inr (some q) :: [b0, b1, b2]) (h, some v, h', 0, 0)) (hcs : nc ≤ K.2.2.2.1 ∧ ns ≤ K.2.2.2.2) (hd : decode M.1 pc = .ok (.invokevirtual idx, 3)) (k : tc_V M K nc ns h' (pc + 3) L (v :: rest)) : tc_V M K nc ns h pc L (b2 :: b1 :: b0 :: .inr (some q) :: rest) := tv_callN [b0, b1, b2] hM hK.1 hK.2.1 hK.2.2.1 hK.2.2.2.1 he hK.2.2.2.2 hdd rfl rfl hrest hw hd hcs k
theorem tv_callS3v {h' : List tcC} {rest : List tcV} {y : MethodName} {cc : ByteArray} {nL idx d' : Nat} {ret : Option FieldType} {b0 b1 b2 : tcV}  (hK : tc_KS M.2.2.1 idx y cc nL ret 3) (hdd : d' < M.2.2.2.2.1) (hrest : rest.length ≤ 8) (hw : tc_okL h.length L = true ∧ tc_okS h.length rest = true) (hM : tc_M y cc nL ret d' [b0, b1, b2] (h, none, h', 0, 0)) (hcs : nc ≤ K.2.2.2.1 ∧ ns ≤ K.2.2.2.2) (hd : decode M.1 pc = .ok (.invokestatic idx, 3)) (k : tc_V M K nc ns h' (pc + 3) L (rest)) : tc_V M K nc ns h pc L (b2 :: b1 :: b0 :: rest) := tv_callS [b0, b1, b2] hM hK.1 hK.2.1 hK.2.2 hdd rfl rfl hrest hw hd hcs k
theorem tv_callV3v {h' : List tcC} {rest : List tcV} {y : MethodName} {cc : ByteArray} {nL idx d' : Nat} {ret : Option FieldType} {b0 b1 b2 : tcV}  {q ci N : Nat} {T : u_T} {fs : List tcV} (hK : tc_KV M.2.2.1 idx y cc nL ret 3 ci T N) (hdd : d' < M.2.2.2.2.1) (hrest : rest.length ≤ 8) (hw : tc_okL h.length L = true ∧ tc_okS h.length rest = true) (he : h[q]? = some (.inr (ci, fs))) (hM : tc_M y cc nL ret d' (.inr (some q) :: [b0, b1, b2]) (h, none, h', 0, 0)) (hcs : nc ≤ K.2.2.2.1 ∧ ns ≤ K.2.2.2.2) (hd : decode M.1 pc = .ok (.invokevirtual idx, 3)) (k : tc_V M K nc ns h' (pc + 3) L (rest)) : tc_V M K nc ns h pc L (b2 :: b1 :: b0 :: .inr (some q) :: rest) := tv_callV [b0, b1, b2] hM hK.1 hK.2.1 hK.2.2.1 hK.2.2.2.1 he hK.2.2.2.2 hdd rfl rfl hrest hw hd hcs k
theorem tv_callN3v {h' : List tcC} {rest : List tcV} {y : MethodName} {cc : ByteArray} {nL idx d' : Nat} {ret : Option FieldType} {b0 b1 b2 : tcV}  {q ci N : Nat} {T : u_T} {fs : List tcV} {host : String} (hK : tc_KN M.2.2.1 idx y cc nL ret 3 ci T N host) (hdd : d' < M.2.2.2.2.1) (hrest : rest.length ≤ 8) (hw : tc_okL h.length L = true ∧ tc_okS h.length rest = true) (he : h[q]? = some (.inr (ci, fs))) (hM : tc_M y cc nL ret d' (.inr (some q) :: [b0, b1, b2]) (h, none, h', 0, 0)) (hcs : nc ≤ K.2.2.2.1 ∧ ns ≤ K.2.2.2.2) (hd : decode M.1 pc = .ok (.invokevirtual idx, 3)) (k : tc_V M K nc ns h' (pc + 3) L (rest)) : tc_V M K nc ns h pc L (b2 :: b1 :: b0 :: .inr (some q) :: rest) := tv_callN [b0, b1, b2] hM hK.1 hK.2.1 hK.2.2.1 hK.2.2.2.1 he hK.2.2.2.2 hdd rfl rfl hrest hw hd hcs k
theorem tv_callS4r {h' : List tcC} {rest : List tcV} {y : MethodName} {cc : ByteArray} {nL idx d' : Nat} {ret : Option FieldType} {b0 b1 b2 b3 : tcV} {v : tcV} (hK : tc_KS M.2.2.1 idx y cc nL ret 4) (hdd : d' < M.2.2.2.2.1) (hrest : rest.length ≤ 8) (hw : tc_okL h.length L = true ∧ tc_okS h.length rest = true) (hM : tc_M y cc nL ret d' [b0, b1, b2, b3] (h, some v, h', 0, 0)) (hcs : nc ≤ K.2.2.2.1 ∧ ns ≤ K.2.2.2.2) (hd : decode M.1 pc = .ok (.invokestatic idx, 3)) (k : tc_V M K nc ns h' (pc + 3) L (v :: rest)) : tc_V M K nc ns h pc L (b3 :: b2 :: b1 :: b0 :: rest) := tv_callS [b0, b1, b2, b3] hM hK.1 hK.2.1 hK.2.2 hdd rfl rfl hrest hw hd hcs k
theorem tv_callV4r {h' : List tcC} {rest : List tcV} {y : MethodName} {cc : ByteArray} {nL idx d' : Nat} {ret : Option FieldType} {b0 b1 b2 b3 : tcV} {v : tcV} {q ci N : Nat} {T : u_T} {fs : List tcV} (hK : tc_KV M.2.2.1 idx y cc nL ret 4 ci T N) (hdd : d' < M.2.2.2.2.1) (hrest : rest.length ≤ 8) (hw : tc_okL h.length L = true ∧ tc_okS h.length rest = true) (he : h[q]? = some (.inr (ci, fs))) (hM : tc_M y cc nL ret d' (.inr (some q) :: [b0, b1, b2, b3]) (h, some v, h', 0, 0)) (hcs : nc ≤ K.2.2.2.1 ∧ ns ≤ K.2.2.2.2) (hd : decode M.1 pc = .ok (.invokevirtual idx, 3)) (k : tc_V M K nc ns h' (pc + 3) L (v :: rest)) : tc_V M K nc ns h pc L (b3 :: b2 :: b1 :: b0 :: .inr (some q) :: rest) := tv_callV [b0, b1, b2, b3] hM hK.1 hK.2.1 hK.2.2.1 hK.2.2.2.1 he hK.2.2.2.2 hdd rfl rfl hrest hw hd hcs k
theorem tv_callN4r {h' : List tcC} {rest : List tcV} {y : MethodName} {cc : ByteArray} {nL idx d' : Nat} {ret : Option FieldType} {b0 b1 b2 b3 : tcV} {v : tcV} {q ci N : Nat} {T : u_T} {fs : List tcV} {host : String} (hK : tc_KN M.2.2.1 idx y cc nL ret 4 ci T N host) (hdd : d' < M.2.2.2.2.1) (hrest : rest.length ≤ 8) (hw : tc_okL h.length L = true ∧ tc_okS h.length rest = true) (he : h[q]? = some (.inr (ci, fs))) (hM : tc_M y cc nL ret d' (.inr (some q) :: [b0, b1, b2, b3]) (h, some v, h', 0, 0)) (hcs : nc ≤ K.2.2.2.1 ∧ ns ≤ K.2.2.2.2) (hd : decode M.1 pc = .ok (.invokevirtual idx, 3)) (k : tc_V M K nc ns h' (pc + 3) L (v :: rest)) : tc_V M K nc ns h pc L (b3 :: b2 :: b1 :: b0 :: .inr (some q) :: rest) := tv_callN [b0, b1, b2, b3] hM hK.1 hK.2.1 hK.2.2.1 hK.2.2.2.1 he hK.2.2.2.2 hdd rfl rfl hrest hw hd hcs k
theorem tv_callS4v {h' : List tcC} {rest : List tcV} {y : MethodName} {cc : ByteArray} {nL idx d' : Nat} {ret : Option FieldType} {b0 b1 b2 b3 : tcV}  (hK : tc_KS M.2.2.1 idx y cc nL ret 4) (hdd : d' < M.2.2.2.2.1) (hrest : rest.length ≤ 8) (hw : tc_okL h.length L = true ∧ tc_okS h.length rest = true) (hM : tc_M y cc nL ret d' [b0, b1, b2, b3] (h, none, h', 0, 0)) (hcs : nc ≤ K.2.2.2.1 ∧ ns ≤ K.2.2.2.2) (hd : decode M.1 pc = .ok (.invokestatic idx, 3)) (k : tc_V M K nc ns h' (pc + 3) L (rest)) : tc_V M K nc ns h pc L (b3 :: b2 :: b1 :: b0 :: rest) := tv_callS [b0, b1, b2, b3] hM hK.1 hK.2.1 hK.2.2 hdd rfl rfl hrest hw hd hcs k
theorem tv_callV4v {h' : List tcC} {rest : List tcV} {y : MethodName} {cc : ByteArray} {nL idx d' : Nat} {ret : Option FieldType} {b0 b1 b2 b3 : tcV}  {q ci N : Nat} {T : u_T} {fs : List tcV} (hK : tc_KV M.2.2.1 idx y cc nL ret 4 ci T N) (hdd : d' < M.2.2.2.2.1) (hrest : rest.length ≤ 8) (hw : tc_okL h.length L = true ∧ tc_okS h.length rest = true) (he : h[q]? = some (.inr (ci, fs))) (hM : tc_M y cc nL ret d' (.inr (some q) :: [b0, b1, b2, b3]) (h, none, h', 0, 0)) (hcs : nc ≤ K.2.2.2.1 ∧ ns ≤ K.2.2.2.2) (hd : decode M.1 pc = .ok (.invokevirtual idx, 3)) (k : tc_V M K nc ns h' (pc + 3) L (rest)) : tc_V M K nc ns h pc L (b3 :: b2 :: b1 :: b0 :: .inr (some q) :: rest) := tv_callV [b0, b1, b2, b3] hM hK.1 hK.2.1 hK.2.2.1 hK.2.2.2.1 he hK.2.2.2.2 hdd rfl rfl hrest hw hd hcs k
theorem tv_callN4v {h' : List tcC} {rest : List tcV} {y : MethodName} {cc : ByteArray} {nL idx d' : Nat} {ret : Option FieldType} {b0 b1 b2 b3 : tcV}  {q ci N : Nat} {T : u_T} {fs : List tcV} {host : String} (hK : tc_KN M.2.2.1 idx y cc nL ret 4 ci T N host) (hdd : d' < M.2.2.2.2.1) (hrest : rest.length ≤ 8) (hw : tc_okL h.length L = true ∧ tc_okS h.length rest = true) (he : h[q]? = some (.inr (ci, fs))) (hM : tc_M y cc nL ret d' (.inr (some q) :: [b0, b1, b2, b3]) (h, none, h', 0, 0)) (hcs : nc ≤ K.2.2.2.1 ∧ ns ≤ K.2.2.2.2) (hd : decode M.1 pc = .ok (.invokevirtual idx, 3)) (k : tc_V M K nc ns h' (pc + 3) L (rest)) : tc_V M K nc ns h pc L (b3 :: b2 :: b1 :: b0 :: .inr (some q) :: rest) := tv_callN [b0, b1, b2, b3] hM hK.1 hK.2.1 hK.2.2.1 hK.2.2.2.1 he hK.2.2.2.2 hdd rfl rfl hrest hw hd hcs k
end TW
end
section
/-! rows that make cells -/
def tc_okH (n : Nat) (h : List tcC) : Bool := h.all (fun c => match c with
  | .inl (_, _, .inl _) => true
  | .inl (_, _, .inr _) => false
  | .inr (_, fs) => tc_okS n fs)
theorem tc_e_ag {n : Nat} {ad ad' : Nat → Nat} {tg : Nat → ClassId} (ha : ∀ k, k < n → ad' k = ad k) {h : List tcC} (hh : tc_okH n h = true) {c : tcC} (hc : c ∈ h) : tc_e ad' tg c = tc_e ad tg c := by
  have h1 := List.all_eq_true.mp hh c hc
  rcases c with ⟨t, m, f | g⟩ | ⟨ci, fs⟩
  · rfl
  · exact absurd h1 (by simp)
  · show Sum.inr (ci, fs.map (tc_v ad')) = Sum.inr (ci, fs.map (tc_v ad))
    rw [tc_vs_ag ha h1]
def tc_ad (ad : Nat → Nat) (n q : Nat) : Nat → Nat := fun k => if k = n then q else ad k
theorem tc_ad_lt {ad : Nat → Nat} {n q : Nat} : ∀ k, k < n → tc_ad ad n q k = ad k := fun k hk => by
  unfold tc_ad
  rw [if_neg (by omega)]
theorem tc_ad_n {ad : Nat → Nat} {n q : Nat} : tc_ad ad n q n = q := by
  unfold tc_ad
  rw [if_pos rfl]
theorem tc_w_new {ad : Nat → Nat} {tg : Nat → ClassId} {h : List tcC} {c : tcC} {q : Nat} (hh : tc_okH h.length h = true) (hc : tc_okH h.length [c] = true) : tc_w (tc_ad ad h.length q) tg (h ++ [c]) = tc_w ad tg h ++ [(q, tc_e ad tg c)] := by
  refine List.ext_getElem? (fun i => ?_)
  have e1 : (tc_w (tc_ad ad h.length q) tg (h ++ [c]))[i]? = ((h ++ [c])[i]?).map (fun c => (tc_ad ad h.length q i, tc_e (tc_ad ad h.length q) tg c)) := by unfold tc_w; rw [List.getElem?_mapIdx]
  have e2 : (tc_w ad tg h)[i]? = (h[i]?).map (fun c => (ad i, tc_e ad tg c)) := by unfold tc_w; rw [List.getElem?_mapIdx]
  have e3 : (tc_w ad tg h).length = h.length := by simp [tc_w]
  rw [e1]
  by_cases hi : i < h.length
  · rw [List.getElem?_append_left hi, List.getElem?_append_left (by rw [e3]; exact hi), e2, tc_ad_lt i hi, List.getElem?_eq_getElem hi]
    simp only [Option.map_some]
    rw [tc_e_ag tc_ad_lt hh (List.getElem_mem hi)]
  · by_cases h2 : i = h.length
    · subst h2
      rw [List.getElem?_append_right (Nat.le_refl _), List.getElem?_append_right (by rw [e3]; exact Nat.le_refl _), e3, Nat.sub_self]
      simp only [List.getElem?_cons_zero, Option.map_some]
      rw [tc_ad_n, tc_e_ag tc_ad_lt hc List.mem_cons_self]
    · rw [List.getElem?_eq_none (by simp; omega), List.getElem?_eq_none (by simp [e3]; omega)]
      rfl
section TA
variable {M : tcM} {K : tcK} {nc ns : Nat} {h : List tcC} {pc : Nat} {L : List (Option tcV)} {st : List tcV}
/-- the goal behind a new cell -/
theorem tc_new_go {l : Launch} {p : Program} {e : Env} {s : State} {m : MethodId} {args : Array Value} {below : List Frame} {meth : Method} {c : Code} {D : va_G} {tg : Nat → ClassId} {ad0 ad : Nat → Nat} {H1 : Heap} {locs : List Loc} {ls : Array Slot} {cl : tcC} {q : Nat}
    (B : tc_B M p s m args meth c D tg) (hG : K.1.length ≤ h.length ∧ ∀ k, k < K.1.length → ad k = ad0 k) (hL : tc_L ad ls M.2.1 L) (hw : tc_okH h.length h = true ∧ tc_okL h.length L = true ∧ tc_okS h.length st = true) (hc : tc_okH h.length [cl] = true)
    (hP : va_P D vwCl (tc_w ad tg h ++ [(q, tc_e ad tg cl)]) H1) (hD : va_D (va_A (tc_w ad0 tg K.1) s.heap.size) (tc_w ad tg h ++ [(q, tc_e ad tg cl)])) (hS : va_S (va_A (tc_w ad0 tg K.1) s.heap.size) s.heap H1 locs)
    (k : tc_V M K nc ns (h ++ [cl]) pc L (.inr (some h.length) :: st)) : W p l e (tc_rm M.2.2.2.2.1 K.2.2.2.1 K.2.2.2.2) s m args below meth c H1 locs nc ns (MQ below (tc_Q D tg ad0 s.heap.size K) args s K.2.2.2.1 K.2.2.2.2 (va_A (tc_w ad0 tg K.1) s.heap.size)) (F0 m pc ls (.ref q :: st.map (tc_v ad))) := by
  have ew := tc_w_new (ad := ad) (tg := tg) (q := q) hw.1 hc
  have es : (Value.ref q :: st.map (tc_v ad)) = ((.inr (some h.length) :: st : List tcV).map (tc_v (tc_ad ad h.length q))) := by
    rw [List.map_cons, tc_vs_ag tc_ad_lt hw.2.2]
    show _ = Value.ref (tc_ad ad h.length q h.length) :: _
    rw [tc_ad_n]
  rw [es]
  exact k l p e s m args below meth c D tg ad0 (tc_ad ad h.length q) B ⟨by rw [List.length_append]; omega, fun i hi => by rw [tc_ad_lt i (by omega)]; exact hG.2 i hi⟩ H1 locs ls (by rw [ew]; exact hP) (by rw [ew]; exact hD) hS (tc_L_ag tc_ad_lt hw.2.1 hL)
theorem tv_newa_i {n : Nat} {atype : ArrayType} (hd : decode M.1 pc = .ok (.newarray atype, 2)) (hty : newarray.typeOf atype = .int) (ha : Cond.arrayClass .int ∈ tc_T) (hn : n ≤ 1000) (hw : tc_okH h.length h = true ∧ tc_okL h.length L = true ∧ tc_okS h.length st = true) (hc : nc + 1 ≤ K.2.2.2.1 ∧ ns + n ≤ K.2.2.2.2) (k : tc_V M K (nc + 1) (ns + n) (h ++ [.inl (0, n, .inl (fun _ => 0))]) (pc + 2) L (.inr (some h.length) :: st)) : tc_V M K nc ns h pc L (.inl (nI n) :: st) := by
  intro l p e s m args below meth c D tg ad0 ad B hG H locs ls hP hD hS hL
  refine va_newa (a0 := (n, .inl (fun _ => 0))) B.1 B.2.1 (by rw [hty]; exact B.2.2.2.2.1 _ ha) hty B.2.2.2.2.2.1 hP hD hS (fun q hq => Or.inr hq) (fun _ => rfl) (nI_pos (by omega)) (nI_clamp (by omega)) (Nat.le_trans (Nat.mul_le_mul_right _ hn) (by decide)) hc.1 hc.2 hd (fun q cA H1 hK1 hP1 hD1 hS1 => ?_)
  have h1 := (hK1.2 2 _ rfl).2
  have h2 := (B.2.2.2.2.2.1.2 0 _ rfl).2
  have ec : cA = tg 0 := Option.some.inj (h1.symm.trans h2)
  subst ec
  exact tc_new_go (cl := .inl (0, n, .inl (fun _ => 0))) B hG hL hw rfl hP1 hD1 hS1 k
theorem tv_newa_z {n : Nat} {atype : ArrayType} (hd : decode M.1 pc = .ok (.newarray atype, 2)) (hty : newarray.typeOf atype = .boolean) (ha : Cond.arrayClass .boolean ∈ tc_T) (hn : n ≤ 1000) (hw : tc_okH h.length h = true ∧ tc_okL h.length L = true ∧ tc_okS h.length st = true) (hc : nc + 1 ≤ K.2.2.2.1 ∧ ns + n ≤ K.2.2.2.2) (k : tc_V M K (nc + 1) (ns + n) (h ++ [.inl (1, n, .inl (fun _ => 0))]) (pc + 2) L (.inr (some h.length) :: st)) : tc_V M K nc ns h pc L (.inl (nI n) :: st) := by
  intro l p e s m args below meth c D tg ad0 ad B hG H locs ls hP hD hS hL
  refine va_newa (a0 := (n, .inl (fun _ => 0))) B.1 B.2.1 (by rw [hty]; exact B.2.2.2.2.1 _ ha) hty B.2.2.2.2.2.1 hP hD hS (fun q hq => Or.inr hq) (fun _ => rfl) (nI_pos (by omega)) (nI_clamp (by omega)) (Nat.le_trans (Nat.mul_le_mul_right _ hn) (by decide)) hc.1 hc.2 hd (fun q cA H1 hK1 hP1 hD1 hS1 => ?_)
  have h1 := (hK1.2 2 _ rfl).2
  have h2 := (B.2.2.2.2.2.1.2 1 _ rfl).2
  have ec : cA = tg 1 := Option.some.inj (h1.symm.trans h2)
  subst ec
  exact tc_new_go (cl := .inl (1, n, .inl (fun _ => 0))) B hG hL hw rfl hP1 hD1 hS1 k
theorem tv_new {idx ci N : Nat} {C : String} {T : u_T} {ty0 : Nat → FieldType} {fs : List tcV} (hc0 : vwCl[ci]? = some (C, T, N)) (hu : ∀ w ∈ u_ws C T N, w ∈ tc_T) (ht : ∀ j, j < N → parseFieldDescriptor (T j).2.2.1 = some (ty0 j)) (hl : Cond.classLink M.2.2.1 idx C ∈ tc_T) (hi : Cond.instantiable C N ∈ tc_T) (hini : Cond.initialized C ∈ tc_T) (hf : ∀ (ad : Nat → Nat) (j : Nat), j < N → defaultValue (ty0 j) = vp_V (fs.map (tc_v ad)) j) (hok : tc_okS 0 fs = true) (hd : decode M.1 pc = .ok (.new idx, 3)) (hw : tc_okH h.length h = true ∧ tc_okL h.length L = true ∧ tc_okS h.length st = true) (hc : nc + 1 ≤ K.2.2.2.1 ∧ ns + N ≤ K.2.2.2.2) (k : tc_V M K (nc + 1) (ns + N) (h ++ [.inr (ci, fs)]) (pc + 3) L (.inr (some h.length) :: st)) : tc_V M K nc ns h pc L st := by
  intro l p e s m args below meth c D tg ad0 ad B hG H locs ls hP hD hS hL
  refine va_new (fs := fs.map (tc_v ad)) B.1 B.2.1 B.2.2.2.2.1 hu ty0 ht B.2.2.2.1 (B.2.2.2.2.1 _ hl) (B.2.2.2.2.1 _ hi) (B.2.2.2.2.1 _ hini) B.2.2.2.2.2.1 hP hD hS (fun q hq => Or.inr hq) hc0 (hf ad) hc.1 hc.2 hd (fun q H1 hP1 hD1 hS1 => ?_)
  have hok2 : tc_okS h.length fs = true := List.all_eq_true.mpr (fun v hv => by
    have h1 := List.all_eq_true.mp hok v hv
    rcases v with x | (_ | k)
    · rfl
    · rfl
    · exact absurd (of_decide_eq_true (show decide (k < 0) = true from h1)) (Nat.not_lt_zero k))
  exact tc_new_go (cl := .inr (ci, fs)) B hG hL hw (by simp [tc_okH, hok2]) hP1 hD1 hS1 k
theorem tv_putF {idx ci j q N : Nat} {C : String} {T : u_T} {ty0 : Nat → FieldType} {ty : FieldType} {fs fs' : List tcV} {v : tcV} {h' : List tcC} (hF : tc_F M.2.2.1 idx ci j C T N) (hT : tc_FT T N ty0) (g3 : (T j).2.2.2 = true) (g5 : M.2.2.2.2.2 = "<init>") (g6 : (T j).1 = M.2.2.1) (g4 : parseFieldDescriptor (T j).2.2.1 = some ty) (gv : ∀ ad : Nat → Nat, narrow ty (tc_v ad v) = tc_v ad v ∧ fits ty (tc_v ad v) = true) (hd : decode M.1 pc = .ok (.putfield idx, 3)) (he : h[q]? = some (.inr (ci, fs))) (hk : j < fs.length) (hfs : fs.set j v = fs') (hh : h.set q (.inr (ci, fs')) = h') (kk : tc_V M K nc ns h' (pc + 3) L st) : tc_V M K nc ns h pc L (v :: .inr (some q) :: st) := by
  intro l p e s m args below meth c D tg ad0 ad B hG H locs ls hP hD hS hL
  obtain ⟨hc, hkN, hu, hl⟩ := hF
  obtain ⟨g1, g2⟩ := hT
  refine va_putF B.1 B.2.1 B.2.2.2.2.1 hu ty0 g1 g2 B.2.2.2.1 B.2.2.2.2.2.1 hP hD hS q (tc_w_at he) hc j hkN (B.2.2.2.2.1 _ hl) (fun _ z => z) g3 (by rw [B.2.2.2.2.2.2.2.2.2, g5]) g6 (ty := ty) (v := tc_v ad v) g4 (gv ad).1 (gv ad).2 (by simpa using hk) hd (fun H1 locs1 hP1 hD1 hS1 => ?_)
  have ew : (tc_w ad tg h).set q (ad q, .inr (ci, (fs.map (tc_v ad)).set j (tc_v ad v))) = tc_w ad tg h' := by
    have e1 : (fs.map (tc_v ad)).set j (tc_v ad v) = fs'.map (tc_v ad) := by
      rw [← hfs, List.map_set]
    rw [e1, ← hh]
    exact tc_w_set (c := .inr (ci, fs'))
  rw [ew] at hP1 hD1
  exact kk l p e s m args below meth c D tg ad0 ad B ⟨by rw [← hh, List.length_set]; exact hG.1, hG.2⟩ H1 locs1 ls hP1 hD1 hS1 hL
theorem tv_objI {idx q : Nat} (hl : Cond.methodLink M.2.2.1 idx objectInit ∈ tc_T) (hi : Cond.instanceMethod objectInit ∈ tc_T) (hcd : Cond.code objectInit ⟨#[0xb1]⟩ 1 none ∈ tc_T) (hd : decode M.1 pc = .ok (.invokespecial idx, 3)) (hdd : 0 < M.2.2.2.2.1) (hst : st.length ≤ 8) (k : tc_V M K nc ns h (pc + 3) L st) : tc_V M K nc ns h pc L (.inr (some q) :: st) := by
  intro l p e s m args below meth c D tg ad0 ad B hG H locs ls hP hD hS hL
  refine W.objInit B.1 B.2.1 B.2.2.2.1 (B.2.2.2.2.1 _ hl) (B.2.2.2.2.1 _ hi) (B.2.2.2.2.1 _ hcd) rfl (by rw [B.2.2.1]; exact hL.1) rfl hd hdd ?_ (k l p e s m args below meth c D tg ad0 ad B hG H locs ls hP hD hS hL)
  show 2 * 0 + ((st.map (tc_v ad)).map fun v => v.category).sum + 12 ≤ 32 * M.2.2.2.2.1
  rw [tc_catsum]
  omega
end TA
theorem tv_callI {M : tcM} {K : tcK} {nc ns mc ms : Nat} {h h' : List tcC} {pc : Nat} {L : List (Option tcV)} {rest : List tcV} {y : MethodName} {cc : ByteArray} {nL idx d' q : Nat} {n : Nat} (hn : n = 0) (hM : tc_M y cc nL none d' [.inr (some q)] (h, none, h', mc, ms)) (hY : tc_Y y cc nL none n) (hl : Cond.methodLink M.2.2.1 idx y ∈ tc_T) (hy : y.name = "<init>") (hi : Cond.instanceMethod y ∈ tc_T) (hdd : d' < M.2.2.2.2.1) (hrest : rest.length ≤ 8) (hwf : tc_okL h.length L = true ∧ tc_okS h.length rest = true) (hd : decode M.1 pc = .ok (.invokespecial idx, 3)) (hcs : nc + mc ≤ K.2.2.2.1 ∧ ns + ms ≤ K.2.2.2.2) (k : tc_V M K (nc + mc) (ns + ms) h' (pc + 3) L rest) : tc_V M K nc ns h pc L (.inr (some q) :: rest) := by
  intro l p e s m args below meth c D tg ad0 ad B hG H locs ls hP hD hS hL
  obtain ⟨y1, y2, y3, y4⟩ := hY
  obtain ⟨hx, hb, hml, hown, hts, hK, hN, hrt, hlk, hnm⟩ := id B
  exact tc_go (r := none) B hG hD hS hL hM.1 hwf (va_runI (b := ad q) (As := []) (n := n) ⟨hx, hb, hml, hown, hts⟩ (hM.2 l D tg ad H.size) ⟨callB_of n hts (tc_goodIn y1) rfl rfl rfl (hts _ y2) (hts _ hl) y3 (tc_room hdd y4), hy, hts _ hi⟩ ⟨tc_blind, tc_pre (As := [.inr (some q)]) B hP hD⟩ rfl hn.symm hL.1 rfl (tc_mroom hrest) hd hcs) k
theorem tv_callIN {M : tcM} {K : tcK} {nc ns mc ms : Nat} {h h' : List tcC} {pc : Nat} {L : List (Option tcV)} {rest : List tcV} {y : MethodName} {cc : ByteArray} {nL idx d' q : Nat} {n : Nat} (hn : n = 0) (hM : tc_M y cc nL none d' [.inr (some q)] (h, none, h', mc, ms)) (hY : tc_Y y cc nL none n) {host : String} (hl : (M.2.2.1, idx, y, host) ∈ tc_nest) (hy : y.name = "<init>") (hi : Cond.instanceMethod y ∈ tc_T) (hdd : d' < M.2.2.2.2.1) (hrest : rest.length ≤ 8) (hwf : tc_okL h.length L = true ∧ tc_okS h.length rest = true) (hd : decode M.1 pc = .ok (.invokespecial idx, 3)) (hcs : nc + mc ≤ K.2.2.2.1 ∧ ns + ms ≤ K.2.2.2.2) (k : tc_V M K (nc + mc) (ns + ms) h' (pc + 3) L rest) : tc_V M K nc ns h pc L (.inr (some q) :: rest) := by
  intro l p e s m args below meth c D tg ad0 ad B hG H locs ls hP hD hS hL
  obtain ⟨y1, y2, y3, y4⟩ := hY
  obtain ⟨hx, hb, hml, hown, hts, hK, hN, hrt, hlk, hnm⟩ := id B
  exact tc_go (r := none) B hG hD hS hL hM.1 hwf (va_runIN (b := ad q) (As := []) (n := n) ⟨hx, hb, hml, hown, hts⟩ (hM.2 l D tg ad H.size) ⟨va_cnB n hts (tc_goodIn y1) rfl rfl rfl (hN _ hl) (hts _ y2) y3 (tc_room hdd y4), hy, hts _ hi⟩ ⟨tc_blind, tc_pre (As := [.inr (some q)]) B hP hD⟩ rfl hn.symm hL.1 rfl (tc_mroom hrest) hd hcs) k
end
section
theorem uAK : ∀ w ∈ u_ws RAK TAK 4, w ∈ tc_T := fun w hw => tc_in ((by decide +kernel : ∀ w ∈ u_ws RAK TAK 4, w ∈ lw_tbl) w hw) ((by decide +kernel : ∀ w ∈ u_ws RAK TAK 4, goodWord w = true) w hw)
theorem ftAK : tc_FT TAK 4 tyAK := ⟨okAK, nmAK⟩
theorem uRO : ∀ w ∈ u_ws RRO TRO 2, w ∈ tc_T := fun w hw => tc_in ((by decide +kernel : ∀ w ∈ u_ws RRO TRO 2, w ∈ lw_tbl) w hw) ((by decide +kernel : ∀ w ∈ u_ws RRO TRO 2, goodWord w = true) w hw)
theorem ftRO : tc_FT TRO 2 tyRO := ⟨okRO, nmRO⟩
theorem uTC : ∀ w ∈ u_ws RTC TTC 19, w ∈ tc_T := fun w hw => tc_in ((by decide +kernel : ∀ w ∈ u_ws RTC TTC 19, w ∈ lw_tbl) w hw) ((by decide +kernel : ∀ w ∈ u_ws RTC TTC 19, goodWord w = true) w hw)
theorem ftTC : tc_FT TTC 19 tyTC := ⟨okTC, nmTC⟩
theorem uMO : ∀ w ∈ u_ws RMO TMO 25, w ∈ tc_T := fun w hw => tc_in ((by decide +kernel : ∀ w ∈ u_ws RMO TMO 25, w ∈ lw_tbl) w hw) ((by decide +kernel : ∀ w ∈ u_ws RMO TMO 25, goodWord w = true) w hw)
theorem ftMO : tc_FT TMO 25 tyMO := ⟨okMO, nmMO⟩
theorem fAK_9 : tc_F RAK 9 0 0 RAK TAK 4 := ⟨rfl, by decide, uAK, tc_in (List.mem_append_right _ (List.mem_append_left _ (List.mem_of_getElem? (i := 20) (by decide +kernel)))) rfl⟩
theorem fAK_15 : tc_F RAK 15 0 1 RAK TAK 4 := ⟨rfl, by decide, uAK, tc_in (List.mem_append_right _ (List.mem_append_left _ (List.mem_of_getElem? (i := 21) (by decide +kernel)))) rfl⟩
theorem fAK_18 : tc_F RAK 18 0 2 RAK TAK 4 := ⟨rfl, by decide, uAK, tc_in (List.mem_append_right _ (List.mem_append_left _ (List.mem_of_getElem? (i := 22) (by decide +kernel)))) rfl⟩
theorem fAK_22 : tc_F RAK 22 0 3 RAK TAK 4 := ⟨rfl, by decide, uAK, tc_in (List.mem_append_right _ (List.mem_append_left _ (List.mem_of_getElem? (i := 23) (by decide +kernel)))) rfl⟩
theorem fRO_11 : tc_F RRO 11 1 0 RRO TRO 2 := ⟨rfl, by decide, uRO, tc_in (List.mem_append_right _ (List.mem_append_left _ (List.mem_of_getElem? (i := 41) (by decide +kernel)))) rfl⟩
theorem fRO_15 : tc_F RRO 15 1 1 RRO TRO 2 := ⟨rfl, by decide, uRO, tc_in (List.mem_append_right _ (List.mem_append_left _ (List.mem_of_getElem? (i := 42) (by decide +kernel)))) rfl⟩
theorem fTC_9 : tc_F RTC 9 2 0 RTC TTC 19 := ⟨rfl, by decide, uTC, tc_in (List.mem_append_right _ (List.mem_append_left _ (List.mem_of_getElem? (i := 51) (by decide +kernel)))) rfl⟩
theorem fTC_13 : tc_F RTC 13 2 1 RTC TTC 19 := ⟨rfl, by decide, uTC, tc_in (List.mem_append_right _ (List.mem_append_left _ (List.mem_of_getElem? (i := 52) (by decide +kernel)))) rfl⟩
theorem fTC_17 : tc_F RTC 17 2 2 RTC TTC 19 := ⟨rfl, by decide, uTC, tc_in (List.mem_append_right _ (List.mem_append_left _ (List.mem_of_getElem? (i := 53) (by decide +kernel)))) rfl⟩
theorem fTC_20 : tc_F RTC 20 2 3 RTC TTC 19 := ⟨rfl, by decide, uTC, tc_in (List.mem_append_right _ (List.mem_append_left _ (List.mem_of_getElem? (i := 54) (by decide +kernel)))) rfl⟩
theorem fTC_23 : tc_F RTC 23 2 4 RTC TTC 19 := ⟨rfl, by decide, uTC, tc_in (List.mem_append_right _ (List.mem_append_left _ (List.mem_of_getElem? (i := 55) (by decide +kernel)))) rfl⟩
theorem fTC_26 : tc_F RTC 26 2 5 RTC TTC 19 := ⟨rfl, by decide, uTC, tc_in (List.mem_append_right _ (List.mem_append_left _ (List.mem_of_getElem? (i := 56) (by decide +kernel)))) rfl⟩
theorem fTC_29 : tc_F RTC 29 2 6 RTC TTC 19 := ⟨rfl, by decide, uTC, tc_in (List.mem_append_right _ (List.mem_append_left _ (List.mem_of_getElem? (i := 57) (by decide +kernel)))) rfl⟩
theorem fTC_32 : tc_F RTC 32 2 7 RTC TTC 19 := ⟨rfl, by decide, uTC, tc_in (List.mem_append_right _ (List.mem_append_left _ (List.mem_of_getElem? (i := 58) (by decide +kernel)))) rfl⟩
theorem fTC_35 : tc_F RTC 35 2 8 RTC TTC 19 := ⟨rfl, by decide, uTC, tc_in (List.mem_append_right _ (List.mem_append_left _ (List.mem_of_getElem? (i := 59) (by decide +kernel)))) rfl⟩
theorem fTC_38 : tc_F RTC 38 2 9 RTC TTC 19 := ⟨rfl, by decide, uTC, tc_in (List.mem_append_right _ (List.mem_append_left _ (List.mem_of_getElem? (i := 60) (by decide +kernel)))) rfl⟩
theorem fTC_44 : tc_F RTC 44 2 10 RTC TTC 19 := ⟨rfl, by decide, uTC, tc_in (List.mem_append_right _ (List.mem_append_left _ (List.mem_of_getElem? (i := 61) (by decide +kernel)))) rfl⟩
theorem fTC_48 : tc_F RTC 48 2 11 RTC TTC 19 := ⟨rfl, by decide, uTC, tc_in (List.mem_append_right _ (List.mem_append_left _ (List.mem_of_getElem? (i := 62) (by decide +kernel)))) rfl⟩
theorem fTC_51 : tc_F RTC 51 2 12 RTC TTC 19 := ⟨rfl, by decide, uTC, tc_in (List.mem_append_right _ (List.mem_append_left _ (List.mem_of_getElem? (i := 63) (by decide +kernel)))) rfl⟩
theorem fTC_57 : tc_F RTC 57 2 13 RTC TTC 19 := ⟨rfl, by decide, uTC, tc_in (List.mem_append_right _ (List.mem_append_left _ (List.mem_of_getElem? (i := 64) (by decide +kernel)))) rfl⟩
theorem fTC_61 : tc_F RTC 61 2 14 RTC TTC 19 := ⟨rfl, by decide, uTC, tc_in (List.mem_append_right _ (List.mem_append_left _ (List.mem_of_getElem? (i := 65) (by decide +kernel)))) rfl⟩
theorem fTC_64 : tc_F RTC 64 2 15 RTC TTC 19 := ⟨rfl, by decide, uTC, tc_in (List.mem_append_right _ (List.mem_append_left _ (List.mem_of_getElem? (i := 66) (by decide +kernel)))) rfl⟩
theorem fTC_67 : tc_F RTC 67 2 16 RTC TTC 19 := ⟨rfl, by decide, uTC, tc_in (List.mem_append_right _ (List.mem_append_left _ (List.mem_of_getElem? (i := 67) (by decide +kernel)))) rfl⟩
theorem fTC_70 : tc_F RTC 70 2 17 RTC TTC 19 := ⟨rfl, by decide, uTC, tc_in (List.mem_append_right _ (List.mem_append_left _ (List.mem_of_getElem? (i := 68) (by decide +kernel)))) rfl⟩
theorem fTC_73 : tc_F RTC 73 2 18 RTC TTC 19 := ⟨rfl, by decide, uTC, tc_in (List.mem_append_right _ (List.mem_append_left _ (List.mem_of_getElem? (i := 69) (by decide +kernel)))) rfl⟩
theorem fMO_68 : tc_F RMO 68 3 0 RMO TMO 25 := ⟨rfl, by decide, uMO, tc_in (List.mem_append_right _ (List.mem_append_right _ (List.mem_append_left _ (List.mem_of_getElem? (i := 40) (by decide +kernel))))) rfl⟩
theorem fMO_72 : tc_F RMO 72 3 1 RMO TMO 25 := ⟨rfl, by decide, uMO, tc_in (List.mem_append_right _ (List.mem_append_right _ (List.mem_append_left _ (List.mem_of_getElem? (i := 41) (by decide +kernel))))) rfl⟩
theorem fMO_75 : tc_F RMO 75 3 2 RMO TMO 25 := ⟨rfl, by decide, uMO, tc_in (List.mem_append_right _ (List.mem_append_right _ (List.mem_append_left _ (List.mem_of_getElem? (i := 42) (by decide +kernel))))) rfl⟩
theorem fMO_85 : tc_F RMO 85 3 3 RMO TMO 25 := ⟨rfl, by decide, uMO, tc_in (List.mem_append_right _ (List.mem_append_right _ (List.mem_append_left _ (List.mem_of_getElem? (i := 43) (by decide +kernel))))) rfl⟩
theorem fMO_92 : tc_F RMO 92 3 4 RMO TMO 25 := ⟨rfl, by decide, uMO, tc_in (List.mem_append_right _ (List.mem_append_right _ (List.mem_append_left _ (List.mem_of_getElem? (i := 44) (by decide +kernel))))) rfl⟩
theorem fMO_7 : tc_F RMO 7 3 5 RMO TMO 25 := ⟨rfl, by decide, uMO, tc_in (List.mem_append_right _ (List.mem_append_right _ (List.mem_append_left _ (List.mem_of_getElem? (i := 45) (by decide +kernel))))) rfl⟩
theorem fMO_13 : tc_F RMO 13 3 6 RMO TMO 25 := ⟨rfl, by decide, uMO, tc_in (List.mem_append_right _ (List.mem_append_right _ (List.mem_append_left _ (List.mem_of_getElem? (i := 46) (by decide +kernel))))) rfl⟩
theorem fMO_16 : tc_F RMO 16 3 7 RMO TMO 25 := ⟨rfl, by decide, uMO, tc_in (List.mem_append_right _ (List.mem_append_right _ (List.mem_append_left _ (List.mem_of_getElem? (i := 47) (by decide +kernel))))) rfl⟩
theorem fMO_19 : tc_F RMO 19 3 8 RMO TMO 25 := ⟨rfl, by decide, uMO, tc_in (List.mem_append_right _ (List.mem_append_right _ (List.mem_append_left _ (List.mem_of_getElem? (i := 48) (by decide +kernel))))) rfl⟩
theorem fMO_22 : tc_F RMO 22 3 9 RMO TMO 25 := ⟨rfl, by decide, uMO, tc_in (List.mem_append_right _ (List.mem_append_right _ (List.mem_append_left _ (List.mem_of_getElem? (i := 49) (by decide +kernel))))) rfl⟩
theorem fMO_25 : tc_F RMO 25 3 10 RMO TMO 25 := ⟨rfl, by decide, uMO, tc_in (List.mem_append_right _ (List.mem_append_right _ (List.mem_append_left _ (List.mem_of_getElem? (i := 50) (by decide +kernel))))) rfl⟩
theorem fMO_28 : tc_F RMO 28 3 11 RMO TMO 25 := ⟨rfl, by decide, uMO, tc_in (List.mem_append_right _ (List.mem_append_right _ (List.mem_append_left _ (List.mem_of_getElem? (i := 51) (by decide +kernel))))) rfl⟩
theorem fMO_31 : tc_F RMO 31 3 12 RMO TMO 25 := ⟨rfl, by decide, uMO, tc_in (List.mem_append_right _ (List.mem_append_right _ (List.mem_append_left _ (List.mem_of_getElem? (i := 52) (by decide +kernel))))) rfl⟩
theorem fMO_34 : tc_F RMO 34 3 13 RMO TMO 25 := ⟨rfl, by decide, uMO, tc_in (List.mem_append_right _ (List.mem_append_right _ (List.mem_append_left _ (List.mem_of_getElem? (i := 53) (by decide +kernel))))) rfl⟩
theorem fMO_37 : tc_F RMO 37 3 14 RMO TMO 25 := ⟨rfl, by decide, uMO, tc_in (List.mem_append_right _ (List.mem_append_right _ (List.mem_append_left _ (List.mem_of_getElem? (i := 54) (by decide +kernel))))) rfl⟩
theorem fMO_40 : tc_F RMO 40 3 15 RMO TMO 25 := ⟨rfl, by decide, uMO, tc_in (List.mem_append_right _ (List.mem_append_right _ (List.mem_append_left _ (List.mem_of_getElem? (i := 55) (by decide +kernel))))) rfl⟩
theorem fMO_43 : tc_F RMO 43 3 16 RMO TMO 25 := ⟨rfl, by decide, uMO, tc_in (List.mem_append_right _ (List.mem_append_right _ (List.mem_append_left _ (List.mem_of_getElem? (i := 56) (by decide +kernel))))) rfl⟩
theorem fMO_46 : tc_F RMO 46 3 17 RMO TMO 25 := ⟨rfl, by decide, uMO, tc_in (List.mem_append_right _ (List.mem_append_right _ (List.mem_append_left _ (List.mem_of_getElem? (i := 57) (by decide +kernel))))) rfl⟩
theorem fMO_50 : tc_F RMO 50 3 18 RMO TMO 25 := ⟨rfl, by decide, uMO, tc_in (List.mem_append_right _ (List.mem_append_right _ (List.mem_append_left _ (List.mem_of_getElem? (i := 58) (by decide +kernel))))) rfl⟩
theorem fMO_53 : tc_F RMO 53 3 19 RMO TMO 25 := ⟨rfl, by decide, uMO, tc_in (List.mem_append_right _ (List.mem_append_right _ (List.mem_append_left _ (List.mem_of_getElem? (i := 59) (by decide +kernel))))) rfl⟩
theorem fMO_56 : tc_F RMO 56 3 20 RMO TMO 25 := ⟨rfl, by decide, uMO, tc_in (List.mem_append_right _ (List.mem_append_right _ (List.mem_append_left _ (List.mem_of_getElem? (i := 60) (by decide +kernel))))) rfl⟩
theorem fMO_59 : tc_F RMO 59 3 21 RMO TMO 25 := ⟨rfl, by decide, uMO, tc_in (List.mem_append_right _ (List.mem_append_right _ (List.mem_append_left _ (List.mem_of_getElem? (i := 61) (by decide +kernel))))) rfl⟩
theorem fMO_62 : tc_F RMO 62 3 22 RMO TMO 25 := ⟨rfl, by decide, uMO, tc_in (List.mem_append_right _ (List.mem_append_right _ (List.mem_append_left _ (List.mem_of_getElem? (i := 62) (by decide +kernel))))) rfl⟩
theorem fMO_65 : tc_F RMO 65 3 23 RMO TMO 25 := ⟨rfl, by decide, uMO, tc_in (List.mem_append_right _ (List.mem_append_right _ (List.mem_append_left _ (List.mem_of_getElem? (i := 63) (by decide +kernel))))) rfl⟩
theorem fMO_124 : tc_F RMO 124 3 24 RMO TMO 25 := ⟨rfl, by decide, uMO, tc_in (List.mem_append_right _ (List.mem_append_right _ (List.mem_append_left _ (List.mem_of_getElem? (i := 64) (by decide +kernel))))) rfl⟩
theorem YTC_init : tc_Y yTC_init cTC_init 1 (none) 0 := ⟨tc_in (List.mem_append_right _ (List.mem_append_left _ (List.mem_of_getElem? (i := 10) rfl))) rfl, tc_in (List.mem_append_right _ (List.mem_append_left _ (List.mem_of_getElem? (i := 1) (by decide +kernel)))) rfl, by decide +kernel, by decide⟩
theorem ITC_init : Cond.instanceMethod yTC_init ∈ tc_T := tc_in (List.mem_append_right _ (List.mem_append_left _ (List.mem_of_getElem? (i := 9) (by decide +kernel)))) rfl
theorem YAK_init : tc_Y yAK_init cAK_init 1 (none) 0 := ⟨tc_in (List.mem_append_right _ (List.mem_append_left _ (List.mem_of_getElem? (i := 18) rfl))) rfl, tc_in (List.mem_append_right _ (List.mem_append_left _ (List.mem_of_getElem? (i := 2) (by decide +kernel)))) rfl, by decide +kernel, by decide⟩
theorem IAK_init : Cond.instanceMethod yAK_init ∈ tc_T := tc_in (List.mem_append_right _ (List.mem_append_left _ (List.mem_of_getElem? (i := 17) (by decide +kernel)))) rfl
theorem YRO_init : tc_Y yRO_init cRO_init 1 (none) 0 := ⟨tc_in (List.mem_append_right _ (List.mem_append_left _ (List.mem_of_getElem? (i := 39) rfl))) rfl, tc_in (List.mem_append_right _ (List.mem_append_left _ (List.mem_of_getElem? (i := 3) (by decide +kernel)))) rfl, by decide +kernel, by decide⟩
theorem IRO_init : Cond.instanceMethod yRO_init ∈ tc_T := tc_in (List.mem_append_right _ (List.mem_append_left _ (List.mem_of_getElem? (i := 38) (by decide +kernel)))) rfl
theorem YAR_fill : tc_Y yAR_fill cAR_fill 4 (none) 2 := ⟨tc_in (List.mem_append_right _ (List.mem_append_left _ (List.mem_of_getElem? (i := 50) rfl))) rfl, tc_in (List.mem_append_right _ (List.mem_append_left _ (List.mem_of_getElem? (i := 4) (by decide +kernel)))) rfl, by decide +kernel, by decide⟩
theorem YTC_platform : tc_Y yTC_platform cTC_platform 2 (some .int) 1 := ⟨tc_in (List.mem_append_right _ (List.mem_append_left _ (List.mem_of_getElem? (i := 112) rfl))) rfl, tc_in (List.mem_append_right _ (List.mem_append_left _ (List.mem_of_getElem? (i := 1) (by decide +kernel)))) rfl, by decide +kernel, by decide⟩
theorem ITC_platform : Cond.instanceMethod yTC_platform ∈ tc_T := tc_in (List.mem_append_right _ (List.mem_append_left _ (List.mem_of_getElem? (i := 110) (by decide +kernel)))) rfl
theorem STC_platform : Cond.selects yTC_platform.cls yTC_platform yTC_platform ∈ tc_T := tc_in (List.mem_append_right _ (List.mem_append_left _ (List.mem_of_getElem? (i := 111) (by decide +kernel)))) rfl
theorem YTC_tool : tc_Y yTC_tool cTC_tool 6 (some .int) 4 := ⟨tc_in (List.mem_append_right _ (List.mem_append_left _ (List.mem_of_getElem? (i := 116) rfl))) rfl, tc_in (List.mem_append_right _ (List.mem_append_left _ (List.mem_of_getElem? (i := 1) (by decide +kernel)))) rfl, by decide +kernel, by decide⟩
theorem ITC_tool : Cond.instanceMethod yTC_tool ∈ tc_T := tc_in (List.mem_append_right _ (List.mem_append_left _ (List.mem_of_getElem? (i := 114) (by decide +kernel)))) rfl
theorem STC_tool : Cond.selects yTC_tool.cls yTC_tool yTC_tool ∈ tc_T := tc_in (List.mem_append_right _ (List.mem_append_left _ (List.mem_of_getElem? (i := 115) (by decide +kernel)))) rfl
theorem YTC_isKind : tc_Y yTC_isKind cTC_isKind 1 (some .boolean) 1 := ⟨tc_in (List.mem_append_right _ (List.mem_append_left _ (List.mem_of_getElem? (i := 119) rfl))) rfl, tc_in (List.mem_append_right _ (List.mem_append_left _ (List.mem_of_getElem? (i := 1) (by decide +kernel)))) rfl, by decide +kernel, by decide⟩
theorem YTC_order : tc_Y yTC_order cTC_order 5 (some .boolean) 2 := ⟨tc_in (List.mem_append_right _ (List.mem_append_left _ (List.mem_of_getElem? (i := 123) rfl))) rfl, tc_in (List.mem_append_right _ (List.mem_append_left _ (List.mem_of_getElem? (i := 1) (by decide +kernel)))) rfl, by decide +kernel, by decide⟩
theorem ITC_order : Cond.instanceMethod yTC_order ∈ tc_T := tc_in (List.mem_append_right _ (List.mem_append_left _ (List.mem_of_getElem? (i := 121) (by decide +kernel)))) rfl
theorem STC_order : Cond.selects yTC_order.cls yTC_order yTC_order ∈ tc_T := tc_in (List.mem_append_right _ (List.mem_append_left _ (List.mem_of_getElem? (i := 122) (by decide +kernel)))) rfl
theorem YTC_isTool : tc_Y yTC_isTool cTC_isTool 2 (some .boolean) 1 := ⟨tc_in (List.mem_append_right _ (List.mem_append_left _ (List.mem_of_getElem? (i := 127) rfl))) rfl, tc_in (List.mem_append_right _ (List.mem_append_left _ (List.mem_of_getElem? (i := 1) (by decide +kernel)))) rfl, by decide +kernel, by decide⟩
theorem ITC_isTool : Cond.instanceMethod yTC_isTool ∈ tc_T := tc_in (List.mem_append_right _ (List.mem_append_left _ (List.mem_of_getElem? (i := 126) (by decide +kernel)))) rfl
theorem STC_isTool : Cond.selects yTC_isTool.cls yTC_isTool yTC_isTool ∈ tc_T := tc_in (List.mem_append_left _ (List.mem_of_getElem? (i := 0) (by decide +kernel))) rfl
theorem YTC_placeOf : tc_Y yTC_placeOf cTC_placeOf 3 (some .int) 1 := ⟨tc_in (List.mem_append_right _ (List.mem_append_left _ (List.mem_of_getElem? (i := 131) rfl))) rfl, tc_in (List.mem_append_right _ (List.mem_append_left _ (List.mem_of_getElem? (i := 1) (by decide +kernel)))) rfl, by decide +kernel, by decide⟩
theorem ITC_placeOf : Cond.instanceMethod yTC_placeOf ∈ tc_T := tc_in (List.mem_append_right _ (List.mem_append_left _ (List.mem_of_getElem? (i := 130) (by decide +kernel)))) rfl
theorem STC_placeOf : Cond.selects yTC_placeOf.cls yTC_placeOf yTC_placeOf ∈ tc_T := tc_in (List.mem_append_left _ (List.mem_of_getElem? (i := 1) (by decide +kernel))) rfl
theorem YTC_needs : tc_Y yTC_needs cTC_needs 3 (some .boolean) 2 := ⟨tc_in (List.mem_append_right _ (List.mem_append_left _ (List.mem_of_getElem? (i := 135) rfl))) rfl, tc_in (List.mem_append_right _ (List.mem_append_left _ (List.mem_of_getElem? (i := 1) (by decide +kernel)))) rfl, by decide +kernel, by decide⟩
theorem ITC_needs : Cond.instanceMethod yTC_needs ∈ tc_T := tc_in (List.mem_append_right _ (List.mem_append_left _ (List.mem_of_getElem? (i := 133) (by decide +kernel)))) rfl
theorem STC_needs : Cond.selects yTC_needs.cls yTC_needs yTC_needs ∈ tc_T := tc_in (List.mem_append_right _ (List.mem_append_left _ (List.mem_of_getElem? (i := 134) (by decide +kernel)))) rfl
theorem YTC_hasBit : tc_Y yTC_hasBit cTC_hasBit 2 (some .boolean) 2 := ⟨tc_in (List.mem_append_right _ (List.mem_append_left _ (List.mem_of_getElem? (i := 138) rfl))) rfl, tc_in (List.mem_append_right _ (List.mem_append_left _ (List.mem_of_getElem? (i := 1) (by decide +kernel)))) rfl, by decide +kernel, by decide⟩
theorem YTC_ask : tc_Y yTC_ask cTC_ask 4 (some .boolean) 3 := ⟨tc_in (List.mem_append_right _ (List.mem_append_left _ (List.mem_of_getElem? (i := 142) rfl))) rfl, tc_in (List.mem_append_right _ (List.mem_append_left _ (List.mem_of_getElem? (i := 1) (by decide +kernel)))) rfl, by decide +kernel, by decide⟩
theorem ITC_ask : Cond.instanceMethod yTC_ask ∈ tc_T := tc_in (List.mem_append_right _ (List.mem_append_left _ (List.mem_of_getElem? (i := 140) (by decide +kernel)))) rfl
theorem STC_ask : Cond.selects yTC_ask.cls yTC_ask yTC_ask ∈ tc_T := tc_in (List.mem_append_right _ (List.mem_append_left _ (List.mem_of_getElem? (i := 141) (by decide +kernel)))) rfl
theorem YAK_put : tc_Y yAK_put cAK_put 4 (none) 3 := ⟨tc_in (List.mem_append_right _ (List.mem_append_left _ (List.mem_of_getElem? (i := 146) rfl))) rfl, tc_in (List.mem_append_right _ (List.mem_append_left _ (List.mem_of_getElem? (i := 2) (by decide +kernel)))) rfl, by decide +kernel, by decide⟩
theorem IAK_put : Cond.instanceMethod yAK_put ∈ tc_T := tc_in (List.mem_append_right _ (List.mem_append_left _ (List.mem_of_getElem? (i := 145) (by decide +kernel)))) rfl
theorem SAK_put : Cond.selects yAK_put.cls yAK_put yAK_put ∈ tc_T := tc_in (List.mem_append_left _ (List.mem_of_getElem? (i := 2) (by decide +kernel))) rfl
theorem YAK_find : tc_Y yAK_find cAK_find 3 (some .int) 1 := ⟨tc_in (List.mem_append_right _ (List.mem_append_left _ (List.mem_of_getElem? (i := 150) rfl))) rfl, tc_in (List.mem_append_right _ (List.mem_append_left _ (List.mem_of_getElem? (i := 2) (by decide +kernel)))) rfl, by decide +kernel, by decide⟩
theorem IAK_find : Cond.instanceMethod yAK_find ∈ tc_T := tc_in (List.mem_append_right _ (List.mem_append_left _ (List.mem_of_getElem? (i := 149) (by decide +kernel)))) rfl
theorem SAK_find : Cond.selects yAK_find.cls yAK_find yAK_find ∈ tc_T := tc_in (List.mem_append_left _ (List.mem_of_getElem? (i := 3) (by decide +kernel))) rfl
theorem YTC_drop : tc_Y yTC_drop cTC_drop 2 (some .boolean) 1 := ⟨tc_in (List.mem_append_right _ (List.mem_append_left _ (List.mem_of_getElem? (i := 154) rfl))) rfl, tc_in (List.mem_append_right _ (List.mem_append_left _ (List.mem_of_getElem? (i := 1) (by decide +kernel)))) rfl, by decide +kernel, by decide⟩
theorem ITC_drop : Cond.instanceMethod yTC_drop ∈ tc_T := tc_in (List.mem_append_right _ (List.mem_append_left _ (List.mem_of_getElem? (i := 152) (by decide +kernel)))) rfl
theorem STC_drop : Cond.selects yTC_drop.cls yTC_drop yTC_drop ∈ tc_T := tc_in (List.mem_append_right _ (List.mem_append_left _ (List.mem_of_getElem? (i := 153) (by decide +kernel)))) rfl
theorem YAK_remove : tc_Y yAK_remove cAK_remove 4 (some .boolean) 1 := ⟨tc_in (List.mem_append_right _ (List.mem_append_left _ (List.mem_of_getElem? (i := 158) rfl))) rfl, tc_in (List.mem_append_right _ (List.mem_append_left _ (List.mem_of_getElem? (i := 2) (by decide +kernel)))) rfl, by decide +kernel, by decide⟩
theorem IAK_remove : Cond.instanceMethod yAK_remove ∈ tc_T := tc_in (List.mem_append_right _ (List.mem_append_left _ (List.mem_of_getElem? (i := 157) (by decide +kernel)))) rfl
theorem SAK_remove : Cond.selects yAK_remove.cls yAK_remove yAK_remove ∈ tc_T := tc_in (List.mem_append_left _ (List.mem_of_getElem? (i := 4) (by decide +kernel))) rfl
theorem YTC_force : tc_Y yTC_force cTC_force 3 (some .boolean) 2 := ⟨tc_in (List.mem_append_right _ (List.mem_append_left _ (List.mem_of_getElem? (i := 162) rfl))) rfl, tc_in (List.mem_append_right _ (List.mem_append_left _ (List.mem_of_getElem? (i := 1) (by decide +kernel)))) rfl, by decide +kernel, by decide⟩
theorem ITC_force : Cond.instanceMethod yTC_force ∈ tc_T := tc_in (List.mem_append_right _ (List.mem_append_left _ (List.mem_of_getElem? (i := 160) (by decide +kernel)))) rfl
theorem STC_force : Cond.selects yTC_force.cls yTC_force yTC_force ∈ tc_T := tc_in (List.mem_append_right _ (List.mem_append_left _ (List.mem_of_getElem? (i := 161) (by decide +kernel)))) rfl
theorem YTC_choose : tc_Y yTC_choose cTC_choose 3 (some .int) 1 := ⟨tc_in (List.mem_append_right _ (List.mem_append_left _ (List.mem_of_getElem? (i := 166) rfl))) rfl, tc_in (List.mem_append_right _ (List.mem_append_left _ (List.mem_of_getElem? (i := 1) (by decide +kernel)))) rfl, by decide +kernel, by decide⟩
theorem ITC_choose : Cond.instanceMethod yTC_choose ∈ tc_T := tc_in (List.mem_append_right _ (List.mem_append_left _ (List.mem_of_getElem? (i := 164) (by decide +kernel)))) rfl
theorem STC_choose : Cond.selects yTC_choose.cls yTC_choose yTC_choose ∈ tc_T := tc_in (List.mem_append_right _ (List.mem_append_left _ (List.mem_of_getElem? (i := 165) (by decide +kernel)))) rfl
theorem YTC_isPlatform : tc_Y yTC_isPlatform cTC_isPlatform 2 (some .boolean) 1 := ⟨tc_in (List.mem_append_right _ (List.mem_append_left _ (List.mem_of_getElem? (i := 170) rfl))) rfl, tc_in (List.mem_append_right _ (List.mem_append_left _ (List.mem_of_getElem? (i := 1) (by decide +kernel)))) rfl, by decide +kernel, by decide⟩
theorem ITC_isPlatform : Cond.instanceMethod yTC_isPlatform ∈ tc_T := tc_in (List.mem_append_right _ (List.mem_append_left _ (List.mem_of_getElem? (i := 169) (by decide +kernel)))) rfl
theorem STC_isPlatform : Cond.selects yTC_isPlatform.cls yTC_isPlatform yTC_isPlatform ∈ tc_T := tc_in (List.mem_append_left _ (List.mem_of_getElem? (i := 5) (by decide +kernel))) rfl
theorem YTC_settleBuilt : tc_Y yTC_settleBuilt cTC_settleBuilt 3 (none) 0 := ⟨tc_in (List.mem_append_right _ (List.mem_append_left _ (List.mem_of_getElem? (i := 174) rfl))) rfl, tc_in (List.mem_append_right _ (List.mem_append_left _ (List.mem_of_getElem? (i := 1) (by decide +kernel)))) rfl, by decide +kernel, by decide⟩
theorem ITC_settleBuilt : Cond.instanceMethod yTC_settleBuilt ∈ tc_T := tc_in (List.mem_append_right _ (List.mem_append_left _ (List.mem_of_getElem? (i := 173) (by decide +kernel)))) rfl
theorem STC_settleBuilt : Cond.selects yTC_settleBuilt.cls yTC_settleBuilt yTC_settleBuilt ∈ tc_T := tc_in (List.mem_append_left _ (List.mem_of_getElem? (i := 6) (by decide +kernel))) rfl
theorem YTC_platformsHaving : tc_Y yTC_platformsHaving cTC_platformsHaving 4 (some .int) 1 := ⟨tc_in (List.mem_append_right _ (List.mem_append_left _ (List.mem_of_getElem? (i := 178) rfl))) rfl, tc_in (List.mem_append_right _ (List.mem_append_left _ (List.mem_of_getElem? (i := 1) (by decide +kernel)))) rfl, by decide +kernel, by decide⟩
theorem ITC_platformsHaving : Cond.instanceMethod yTC_platformsHaving ∈ tc_T := tc_in (List.mem_append_right _ (List.mem_append_left _ (List.mem_of_getElem? (i := 177) (by decide +kernel)))) rfl
theorem STC_platformsHaving : Cond.selects yTC_platformsHaving.cls yTC_platformsHaving yTC_platformsHaving ∈ tc_T := tc_in (List.mem_append_left _ (List.mem_of_getElem? (i := 7) (by decide +kernel))) rfl
theorem YTC_growBuilt : tc_Y yTC_growBuilt cTC_growBuilt 4 (some .boolean) 0 := ⟨tc_in (List.mem_append_right _ (List.mem_append_left _ (List.mem_of_getElem? (i := 182) rfl))) rfl, tc_in (List.mem_append_right _ (List.mem_append_left _ (List.mem_of_getElem? (i := 1) (by decide +kernel)))) rfl, by decide +kernel, by decide⟩
theorem ITC_growBuilt : Cond.instanceMethod yTC_growBuilt ∈ tc_T := tc_in (List.mem_append_right _ (List.mem_append_left _ (List.mem_of_getElem? (i := 181) (by decide +kernel)))) rfl
theorem STC_growBuilt : Cond.selects yTC_growBuilt.cls yTC_growBuilt yTC_growBuilt ∈ tc_T := tc_in (List.mem_append_left _ (List.mem_of_getElem? (i := 8) (by decide +kernel))) rfl
theorem YTC_platformsWithSupplies : tc_Y yTC_platformsWithSupplies cTC_platformsWithSupplies 4 (some .int) 1 := ⟨tc_in (List.mem_append_right _ (List.mem_append_left _ (List.mem_of_getElem? (i := 186) rfl))) rfl, tc_in (List.mem_append_right _ (List.mem_append_left _ (List.mem_of_getElem? (i := 1) (by decide +kernel)))) rfl, by decide +kernel, by decide⟩
theorem ITC_platformsWithSupplies : Cond.instanceMethod yTC_platformsWithSupplies ∈ tc_T := tc_in (List.mem_append_right _ (List.mem_append_left _ (List.mem_of_getElem? (i := 185) (by decide +kernel)))) rfl
theorem STC_platformsWithSupplies : Cond.selects yTC_platformsWithSupplies.cls yTC_platformsWithSupplies yTC_platformsWithSupplies ∈ tc_T := tc_in (List.mem_append_left _ (List.mem_of_getElem? (i := 9) (by decide +kernel))) rfl
theorem YRO_clear : tc_Y yRO_clear cRO_clear 1 (none) 0 := ⟨tc_in (List.mem_append_right _ (List.mem_append_left _ (List.mem_of_getElem? (i := 190) rfl))) rfl, tc_in (List.mem_append_right _ (List.mem_append_left _ (List.mem_of_getElem? (i := 3) (by decide +kernel)))) rfl, by decide +kernel, by decide⟩
theorem IRO_clear : Cond.instanceMethod yRO_clear ∈ tc_T := tc_in (List.mem_append_right _ (List.mem_append_left _ (List.mem_of_getElem? (i := 189) (by decide +kernel)))) rfl
theorem SRO_clear : Cond.selects yRO_clear.cls yRO_clear yRO_clear ∈ tc_T := tc_in (List.mem_append_left _ (List.mem_of_getElem? (i := 10) (by decide +kernel))) rfl
theorem YTC_takeTools : tc_Y yTC_takeTools cTC_takeTools 5 (some .boolean) 2 := ⟨tc_in (List.mem_append_right _ (List.mem_append_left _ (List.mem_of_getElem? (i := 194) rfl))) rfl, tc_in (List.mem_append_right _ (List.mem_append_left _ (List.mem_of_getElem? (i := 1) (by decide +kernel)))) rfl, by decide +kernel, by decide⟩
theorem ITC_takeTools : Cond.instanceMethod yTC_takeTools ∈ tc_T := tc_in (List.mem_append_right _ (List.mem_append_left _ (List.mem_of_getElem? (i := 193) (by decide +kernel)))) rfl
theorem STC_takeTools : Cond.selects yTC_takeTools.cls yTC_takeTools yTC_takeTools ∈ tc_T := tc_in (List.mem_append_left _ (List.mem_of_getElem? (i := 11) (by decide +kernel))) rfl
theorem YAK_size : tc_Y yAK_size cAK_size 1 (some .int) 0 := ⟨tc_in (List.mem_append_right _ (List.mem_append_left _ (List.mem_of_getElem? (i := 198) rfl))) rfl, tc_in (List.mem_append_right _ (List.mem_append_left _ (List.mem_of_getElem? (i := 2) (by decide +kernel)))) rfl, by decide +kernel, by decide⟩
theorem IAK_size : Cond.instanceMethod yAK_size ∈ tc_T := tc_in (List.mem_append_right _ (List.mem_append_left _ (List.mem_of_getElem? (i := 197) (by decide +kernel)))) rfl
theorem SAK_size : Cond.selects yAK_size.cls yAK_size yAK_size ∈ tc_T := tc_in (List.mem_append_left _ (List.mem_of_getElem? (i := 12) (by decide +kernel))) rfl
theorem YAK_kindAt : tc_Y yAK_kindAt cAK_kindAt 2 (some .int) 1 := ⟨tc_in (List.mem_append_right _ (List.mem_append_left _ (List.mem_of_getElem? (i := 202) rfl))) rfl, tc_in (List.mem_append_right _ (List.mem_append_left _ (List.mem_of_getElem? (i := 2) (by decide +kernel)))) rfl, by decide +kernel, by decide⟩
theorem IAK_kindAt : Cond.instanceMethod yAK_kindAt ∈ tc_T := tc_in (List.mem_append_right _ (List.mem_append_left _ (List.mem_of_getElem? (i := 201) (by decide +kernel)))) rfl
theorem SAK_kindAt : Cond.selects yAK_kindAt.cls yAK_kindAt yAK_kindAt ∈ tc_T := tc_in (List.mem_append_left _ (List.mem_of_getElem? (i := 13) (by decide +kernel))) rfl
theorem YTC_firstGood : tc_Y yTC_firstGood cTC_firstGood 7 (some .int) 3 := ⟨tc_in (List.mem_append_right _ (List.mem_append_left _ (List.mem_of_getElem? (i := 206) rfl))) rfl, tc_in (List.mem_append_right _ (List.mem_append_left _ (List.mem_of_getElem? (i := 1) (by decide +kernel)))) rfl, by decide +kernel, by decide⟩
theorem ITC_firstGood : Cond.instanceMethod yTC_firstGood ∈ tc_T := tc_in (List.mem_append_right _ (List.mem_append_left _ (List.mem_of_getElem? (i := 205) (by decide +kernel)))) rfl
theorem STC_firstGood : Cond.selects yTC_firstGood.cls yTC_firstGood yTC_firstGood ∈ tc_T := tc_in (List.mem_append_left _ (List.mem_of_getElem? (i := 14) (by decide +kernel))) rfl
theorem YTC_whyNot : tc_Y yTC_whyNot cTC_whyNot 5 (some .int) 3 := ⟨tc_in (List.mem_append_right _ (List.mem_append_left _ (List.mem_of_getElem? (i := 210) rfl))) rfl, tc_in (List.mem_append_right _ (List.mem_append_left _ (List.mem_of_getElem? (i := 1) (by decide +kernel)))) rfl, by decide +kernel, by decide⟩
theorem ITC_whyNot : Cond.instanceMethod yTC_whyNot ∈ tc_T := tc_in (List.mem_append_right _ (List.mem_append_left _ (List.mem_of_getElem? (i := 209) (by decide +kernel)))) rfl
theorem STC_whyNot : Cond.selects yTC_whyNot.cls yTC_whyNot yTC_whyNot ∈ tc_T := tc_in (List.mem_append_left _ (List.mem_of_getElem? (i := 15) (by decide +kernel))) rfl
theorem YAK_leastVersion : tc_Y yAK_leastVersion cAK_leastVersion 2 (some .int) 1 := ⟨tc_in (List.mem_append_right _ (List.mem_append_left _ (List.mem_of_getElem? (i := 214) rfl))) rfl, tc_in (List.mem_append_right _ (List.mem_append_left _ (List.mem_of_getElem? (i := 2) (by decide +kernel)))) rfl, by decide +kernel, by decide⟩
theorem IAK_leastVersion : Cond.instanceMethod yAK_leastVersion ∈ tc_T := tc_in (List.mem_append_right _ (List.mem_append_left _ (List.mem_of_getElem? (i := 213) (by decide +kernel)))) rfl
theorem SAK_leastVersion : Cond.selects yAK_leastVersion.cls yAK_leastVersion yAK_leastVersion ∈ tc_T := tc_in (List.mem_append_left _ (List.mem_of_getElem? (i := 16) (by decide +kernel))) rfl
theorem YTC_lackOf : tc_Y yTC_lackOf cTC_lackOf 5 (some .int) 4 := ⟨tc_in (List.mem_append_right _ (List.mem_append_left _ (List.mem_of_getElem? (i := 218) rfl))) rfl, tc_in (List.mem_append_right _ (List.mem_append_left _ (List.mem_of_getElem? (i := 1) (by decide +kernel)))) rfl, by decide +kernel, by decide⟩
theorem ITC_lackOf : Cond.instanceMethod yTC_lackOf ∈ tc_T := tc_in (List.mem_append_right _ (List.mem_append_left _ (List.mem_of_getElem? (i := 217) (by decide +kernel)))) rfl
theorem STC_lackOf : Cond.selects yTC_lackOf.cls yTC_lackOf yTC_lackOf ∈ tc_T := tc_in (List.mem_append_left _ (List.mem_of_getElem? (i := 17) (by decide +kernel))) rfl
theorem YTC_lowestBit : tc_Y yTC_lowestBit cTC_lowestBit 2 (some .int) 1 := ⟨tc_in (List.mem_append_right _ (List.mem_append_left _ (List.mem_of_getElem? (i := 221) rfl))) rfl, tc_in (List.mem_append_right _ (List.mem_append_left _ (List.mem_of_getElem? (i := 1) (by decide +kernel)))) rfl, by decide +kernel, by decide⟩
theorem YTC_lowestUnsupplied : tc_Y yTC_lowestUnsupplied cTC_lowestUnsupplied 4 (some .int) 2 := ⟨tc_in (List.mem_append_right _ (List.mem_append_left _ (List.mem_of_getElem? (i := 225) rfl))) rfl, tc_in (List.mem_append_right _ (List.mem_append_left _ (List.mem_of_getElem? (i := 1) (by decide +kernel)))) rfl, by decide +kernel, by decide⟩
theorem ITC_lowestUnsupplied : Cond.instanceMethod yTC_lowestUnsupplied ∈ tc_T := tc_in (List.mem_append_right _ (List.mem_append_left _ (List.mem_of_getElem? (i := 224) (by decide +kernel)))) rfl
theorem STC_lowestUnsupplied : Cond.selects yTC_lowestUnsupplied.cls yTC_lowestUnsupplied yTC_lowestUnsupplied ∈ tc_T := tc_in (List.mem_append_left _ (List.mem_of_getElem? (i := 18) (by decide +kernel))) rfl
theorem YRO_add : tc_Y yRO_add cRO_add 6 (none) 4 := ⟨tc_in (List.mem_append_right _ (List.mem_append_left _ (List.mem_of_getElem? (i := 229) rfl))) rfl, tc_in (List.mem_append_right _ (List.mem_append_left _ (List.mem_of_getElem? (i := 3) (by decide +kernel)))) rfl, by decide +kernel, by decide⟩
theorem IRO_add : Cond.instanceMethod yRO_add ∈ tc_T := tc_in (List.mem_append_right _ (List.mem_append_left _ (List.mem_of_getElem? (i := 228) (by decide +kernel)))) rfl
theorem SRO_add : Cond.selects yRO_add.cls yRO_add yRO_add ∈ tc_T := tc_in (List.mem_append_left _ (List.mem_of_getElem? (i := 19) (by decide +kernel))) rfl
theorem YAK_isNeeded : tc_Y yAK_isNeeded cAK_isNeeded 2 (some .boolean) 1 := ⟨tc_in (List.mem_append_right _ (List.mem_append_left _ (List.mem_of_getElem? (i := 233) rfl))) rfl, tc_in (List.mem_append_right _ (List.mem_append_left _ (List.mem_of_getElem? (i := 2) (by decide +kernel)))) rfl, by decide +kernel, by decide⟩
theorem IAK_isNeeded : Cond.instanceMethod yAK_isNeeded ∈ tc_T := tc_in (List.mem_append_right _ (List.mem_append_left _ (List.mem_of_getElem? (i := 232) (by decide +kernel)))) rfl
theorem SAK_isNeeded : Cond.selects yAK_isNeeded.cls yAK_isNeeded yAK_isNeeded ∈ tc_T := tc_in (List.mem_append_left _ (List.mem_of_getElem? (i := 20) (by decide +kernel))) rfl
theorem YTC_chosen : tc_Y yTC_chosen cTC_chosen 2 (some .int) 1 := ⟨tc_in (List.mem_append_right _ (List.mem_append_left _ (List.mem_of_getElem? (i := 237) rfl))) rfl, tc_in (List.mem_append_right _ (List.mem_append_left _ (List.mem_of_getElem? (i := 1) (by decide +kernel)))) rfl, by decide +kernel, by decide⟩
theorem ITC_chosen : Cond.instanceMethod yTC_chosen ∈ tc_T := tc_in (List.mem_append_right _ (List.mem_append_left _ (List.mem_of_getElem? (i := 235) (by decide +kernel)))) rfl
theorem STC_chosen : Cond.selects yTC_chosen.cls yTC_chosen yTC_chosen ∈ tc_T := tc_in (List.mem_append_right _ (List.mem_append_left _ (List.mem_of_getElem? (i := 236) (by decide +kernel)))) rfl
theorem YTC_rows : tc_Y yTC_rows cTC_rows 1 (some .int) 0 := ⟨tc_in (List.mem_append_right _ (List.mem_append_right _ (List.mem_append_left _ (List.mem_of_getElem? (i := 1) rfl)))) rfl, tc_in (List.mem_append_right _ (List.mem_append_left _ (List.mem_of_getElem? (i := 1) (by decide +kernel)))) rfl, by decide +kernel, by decide⟩
theorem ITC_rows : Cond.instanceMethod yTC_rows ∈ tc_T := tc_in (List.mem_append_right _ (List.mem_append_left _ (List.mem_of_getElem? (i := 239) (by decide +kernel)))) rfl
theorem STC_rows : Cond.selects yTC_rows.cls yTC_rows yTC_rows ∈ tc_T := tc_in (List.mem_append_right _ (List.mem_append_right _ (List.mem_append_left _ (List.mem_of_getElem? (i := 0) (by decide +kernel))))) rfl
theorem YRO_size : tc_Y yRO_size cRO_size 1 (some .int) 0 := ⟨tc_in (List.mem_append_right _ (List.mem_append_right _ (List.mem_append_left _ (List.mem_of_getElem? (i := 5) rfl)))) rfl, tc_in (List.mem_append_right _ (List.mem_append_left _ (List.mem_of_getElem? (i := 3) (by decide +kernel)))) rfl, by decide +kernel, by decide⟩
theorem IRO_size : Cond.instanceMethod yRO_size ∈ tc_T := tc_in (List.mem_append_right _ (List.mem_append_right _ (List.mem_append_left _ (List.mem_of_getElem? (i := 4) (by decide +kernel))))) rfl
theorem SRO_size : Cond.selects yRO_size.cls yRO_size yRO_size ∈ tc_T := tc_in (List.mem_append_left _ (List.mem_of_getElem? (i := 21) (by decide +kernel))) rfl
theorem YTC_row : tc_Y yTC_row cTC_row 3 (some .int) 2 := ⟨tc_in (List.mem_append_right _ (List.mem_append_right _ (List.mem_append_left _ (List.mem_of_getElem? (i := 9) rfl)))) rfl, tc_in (List.mem_append_right _ (List.mem_append_left _ (List.mem_of_getElem? (i := 1) (by decide +kernel)))) rfl, by decide +kernel, by decide⟩
theorem ITC_row : Cond.instanceMethod yTC_row ∈ tc_T := tc_in (List.mem_append_right _ (List.mem_append_right _ (List.mem_append_left _ (List.mem_of_getElem? (i := 7) (by decide +kernel))))) rfl
theorem STC_row : Cond.selects yTC_row.cls yTC_row yTC_row ∈ tc_T := tc_in (List.mem_append_right _ (List.mem_append_right _ (List.mem_append_left _ (List.mem_of_getElem? (i := 8) (by decide +kernel))))) rfl
theorem YRO_cell : tc_Y yRO_cell cRO_cell 3 (some .int) 2 := ⟨tc_in (List.mem_append_right _ (List.mem_append_right _ (List.mem_append_left _ (List.mem_of_getElem? (i := 13) rfl)))) rfl, tc_in (List.mem_append_right _ (List.mem_append_left _ (List.mem_of_getElem? (i := 3) (by decide +kernel)))) rfl, by decide +kernel, by decide⟩
theorem IRO_cell : Cond.instanceMethod yRO_cell ∈ tc_T := tc_in (List.mem_append_right _ (List.mem_append_right _ (List.mem_append_left _ (List.mem_of_getElem? (i := 12) (by decide +kernel))))) rfl
theorem SRO_cell : Cond.selects yRO_cell.cls yRO_cell yRO_cell ∈ tc_T := tc_in (List.mem_append_left _ (List.mem_of_getElem? (i := 22) (by decide +kernel))) rfl
theorem YTC_built : tc_Y yTC_built cTC_built 3 (some .boolean) 2 := ⟨tc_in (List.mem_append_right _ (List.mem_append_right _ (List.mem_append_left _ (List.mem_of_getElem? (i := 17) rfl)))) rfl, tc_in (List.mem_append_right _ (List.mem_append_left _ (List.mem_of_getElem? (i := 1) (by decide +kernel)))) rfl, by decide +kernel, by decide⟩
theorem ITC_built : Cond.instanceMethod yTC_built ∈ tc_T := tc_in (List.mem_append_right _ (List.mem_append_right _ (List.mem_append_left _ (List.mem_of_getElem? (i := 15) (by decide +kernel))))) rfl
theorem STC_built : Cond.selects yTC_built.cls yTC_built yTC_built ∈ tc_T := tc_in (List.mem_append_right _ (List.mem_append_right _ (List.mem_append_left _ (List.mem_of_getElem? (i := 16) (by decide +kernel))))) rfl
theorem YTC_ring : tc_Y yTC_ring cTC_ring 4 (some .int) 1 := ⟨tc_in (List.mem_append_right _ (List.mem_append_right _ (List.mem_append_left _ (List.mem_of_getElem? (i := 21) rfl)))) rfl, tc_in (List.mem_append_right _ (List.mem_append_left _ (List.mem_of_getElem? (i := 1) (by decide +kernel)))) rfl, by decide +kernel, by decide⟩
theorem ITC_ring : Cond.instanceMethod yTC_ring ∈ tc_T := tc_in (List.mem_append_right _ (List.mem_append_right _ (List.mem_append_left _ (List.mem_of_getElem? (i := 19) (by decide +kernel))))) rfl
theorem STC_ring : Cond.selects yTC_ring.cls yTC_ring yTC_ring ∈ tc_T := tc_in (List.mem_append_right _ (List.mem_append_right _ (List.mem_append_left _ (List.mem_of_getElem? (i := 20) (by decide +kernel))))) rfl
theorem YTC_settleLeads : tc_Y yTC_settleLeads cTC_settleLeads 3 (none) 0 := ⟨tc_in (List.mem_append_right _ (List.mem_append_right _ (List.mem_append_left _ (List.mem_of_getElem? (i := 25) rfl)))) rfl, tc_in (List.mem_append_right _ (List.mem_append_left _ (List.mem_of_getElem? (i := 1) (by decide +kernel)))) rfl, by decide +kernel, by decide⟩
theorem ITC_settleLeads : Cond.instanceMethod yTC_settleLeads ∈ tc_T := tc_in (List.mem_append_right _ (List.mem_append_right _ (List.mem_append_left _ (List.mem_of_getElem? (i := 24) (by decide +kernel))))) rfl
theorem STC_settleLeads : Cond.selects yTC_settleLeads.cls yTC_settleLeads yTC_settleLeads ∈ tc_T := tc_in (List.mem_append_left _ (List.mem_of_getElem? (i := 23) (by decide +kernel))) rfl
theorem YTC_stepsFrom : tc_Y yTC_stepsFrom cTC_stepsFrom 6 (some .int) 1 := ⟨tc_in (List.mem_append_right _ (List.mem_append_right _ (List.mem_append_left _ (List.mem_of_getElem? (i := 29) rfl)))) rfl, tc_in (List.mem_append_right _ (List.mem_append_left _ (List.mem_of_getElem? (i := 1) (by decide +kernel)))) rfl, by decide +kernel, by decide⟩
theorem ITC_stepsFrom : Cond.instanceMethod yTC_stepsFrom ∈ tc_T := tc_in (List.mem_append_right _ (List.mem_append_right _ (List.mem_append_left _ (List.mem_of_getElem? (i := 28) (by decide +kernel))))) rfl
theorem STC_stepsFrom : Cond.selects yTC_stepsFrom.cls yTC_stepsFrom yTC_stepsFrom ∈ tc_T := tc_in (List.mem_append_left _ (List.mem_of_getElem? (i := 24) (by decide +kernel))) rfl
theorem YTC_unbuiltOn : tc_Y yTC_unbuiltOn cTC_unbuiltOn 2 (some .int) 1 := ⟨tc_in (List.mem_append_right _ (List.mem_append_right _ (List.mem_append_left _ (List.mem_of_getElem? (i := 33) rfl)))) rfl, tc_in (List.mem_append_right _ (List.mem_append_left _ (List.mem_of_getElem? (i := 1) (by decide +kernel)))) rfl, by decide +kernel, by decide⟩
theorem ITC_unbuiltOn : Cond.instanceMethod yTC_unbuiltOn ∈ tc_T := tc_in (List.mem_append_right _ (List.mem_append_right _ (List.mem_append_left _ (List.mem_of_getElem? (i := 32) (by decide +kernel))))) rfl
theorem STC_unbuiltOn : Cond.selects yTC_unbuiltOn.cls yTC_unbuiltOn yTC_unbuiltOn ∈ tc_T := tc_in (List.mem_append_left _ (List.mem_of_getElem? (i := 25) (by decide +kernel))) rfl
theorem YMO_init : tc_Y yMO_init cMO_init 2 (none) 0 := ⟨tc_in (List.mem_append_right _ (List.mem_append_right _ (List.mem_append_left _ (List.mem_of_getElem? (i := 38) rfl)))) rfl, tc_in (List.mem_append_right _ (List.mem_append_left _ (List.mem_of_getElem? (i := 5) (by decide +kernel)))) rfl, by decide +kernel, by decide⟩
theorem IMO_init : Cond.instanceMethod yMO_init ∈ tc_T := tc_in (List.mem_append_right _ (List.mem_append_right _ (List.mem_append_left _ (List.mem_of_getElem? (i := 37) (by decide +kernel))))) rfl
theorem YMO_platform : tc_Y yMO_platform cMO_platform 2 (some .int) 1 := ⟨tc_in (List.mem_append_right _ (List.mem_append_right _ (List.mem_append_left _ (List.mem_of_getElem? (i := 119) rfl)))) rfl, tc_in (List.mem_append_right _ (List.mem_append_left _ (List.mem_of_getElem? (i := 5) (by decide +kernel)))) rfl, by decide +kernel, by decide⟩
theorem IMO_platform : Cond.instanceMethod yMO_platform ∈ tc_T := tc_in (List.mem_append_right _ (List.mem_append_right _ (List.mem_append_left _ (List.mem_of_getElem? (i := 117) (by decide +kernel))))) rfl
theorem SMO_platform : Cond.selects yMO_platform.cls yMO_platform yMO_platform ∈ tc_T := tc_in (List.mem_append_right _ (List.mem_append_right _ (List.mem_append_left _ (List.mem_of_getElem? (i := 118) (by decide +kernel))))) rfl
theorem YMO_tool : tc_Y yMO_tool cMO_tool 5 (some .int) 4 := ⟨tc_in (List.mem_append_right _ (List.mem_append_right _ (List.mem_append_left _ (List.mem_of_getElem? (i := 123) rfl)))) rfl, tc_in (List.mem_append_right _ (List.mem_append_left _ (List.mem_of_getElem? (i := 5) (by decide +kernel)))) rfl, by decide +kernel, by decide⟩
theorem IMO_tool : Cond.instanceMethod yMO_tool ∈ tc_T := tc_in (List.mem_append_right _ (List.mem_append_right _ (List.mem_append_left _ (List.mem_of_getElem? (i := 121) (by decide +kernel))))) rfl
theorem SMO_tool : Cond.selects yMO_tool.cls yMO_tool yMO_tool ∈ tc_T := tc_in (List.mem_append_right _ (List.mem_append_right _ (List.mem_append_left _ (List.mem_of_getElem? (i := 122) (by decide +kernel))))) rfl
theorem YMO_isKind : tc_Y yMO_isKind cMO_isKind 1 (some .boolean) 1 := ⟨tc_in (List.mem_append_right _ (List.mem_append_right _ (List.mem_append_left _ (List.mem_of_getElem? (i := 126) rfl)))) rfl, tc_in (List.mem_append_right _ (List.mem_append_left _ (List.mem_of_getElem? (i := 5) (by decide +kernel)))) rfl, by decide +kernel, by decide⟩
theorem YMO_order : tc_Y yMO_order cMO_order 5 (some .boolean) 2 := ⟨tc_in (List.mem_append_right _ (List.mem_append_right _ (List.mem_append_left _ (List.mem_of_getElem? (i := 130) rfl)))) rfl, tc_in (List.mem_append_right _ (List.mem_append_left _ (List.mem_of_getElem? (i := 5) (by decide +kernel)))) rfl, by decide +kernel, by decide⟩
theorem IMO_order : Cond.instanceMethod yMO_order ∈ tc_T := tc_in (List.mem_append_right _ (List.mem_append_right _ (List.mem_append_left _ (List.mem_of_getElem? (i := 128) (by decide +kernel))))) rfl
theorem SMO_order : Cond.selects yMO_order.cls yMO_order yMO_order ∈ tc_T := tc_in (List.mem_append_right _ (List.mem_append_right _ (List.mem_append_left _ (List.mem_of_getElem? (i := 129) (by decide +kernel))))) rfl
theorem YMO_isTool : tc_Y yMO_isTool cMO_isTool 2 (some .boolean) 1 := ⟨tc_in (List.mem_append_right _ (List.mem_append_right _ (List.mem_append_left _ (List.mem_of_getElem? (i := 134) rfl)))) rfl, tc_in (List.mem_append_right _ (List.mem_append_left _ (List.mem_of_getElem? (i := 5) (by decide +kernel)))) rfl, by decide +kernel, by decide⟩
theorem IMO_isTool : Cond.instanceMethod yMO_isTool ∈ tc_T := tc_in (List.mem_append_right _ (List.mem_append_right _ (List.mem_append_left _ (List.mem_of_getElem? (i := 133) (by decide +kernel))))) rfl
theorem SMO_isTool : Cond.selects yMO_isTool.cls yMO_isTool yMO_isTool ∈ tc_T := tc_in (List.mem_append_left _ (List.mem_of_getElem? (i := 26) (by decide +kernel))) rfl
theorem YMO_needs : tc_Y yMO_needs cMO_needs 3 (some .boolean) 2 := ⟨tc_in (List.mem_append_right _ (List.mem_append_right _ (List.mem_append_left _ (List.mem_of_getElem? (i := 138) rfl)))) rfl, tc_in (List.mem_append_right _ (List.mem_append_left _ (List.mem_of_getElem? (i := 5) (by decide +kernel)))) rfl, by decide +kernel, by decide⟩
theorem IMO_needs : Cond.instanceMethod yMO_needs ∈ tc_T := tc_in (List.mem_append_right _ (List.mem_append_right _ (List.mem_append_left _ (List.mem_of_getElem? (i := 136) (by decide +kernel))))) rfl
theorem SMO_needs : Cond.selects yMO_needs.cls yMO_needs yMO_needs ∈ tc_T := tc_in (List.mem_append_right _ (List.mem_append_right _ (List.mem_append_left _ (List.mem_of_getElem? (i := 137) (by decide +kernel))))) rfl
theorem YMO_wants : tc_Y yMO_wants cMO_wants 5 (some .boolean) 2 := ⟨tc_in (List.mem_append_right _ (List.mem_append_right _ (List.mem_append_left _ (List.mem_of_getElem? (i := 142) rfl)))) rfl, tc_in (List.mem_append_right _ (List.mem_append_left _ (List.mem_of_getElem? (i := 5) (by decide +kernel)))) rfl, by decide +kernel, by decide⟩
theorem IMO_wants : Cond.instanceMethod yMO_wants ∈ tc_T := tc_in (List.mem_append_right _ (List.mem_append_right _ (List.mem_append_left _ (List.mem_of_getElem? (i := 141) (by decide +kernel))))) rfl
theorem SMO_wants : Cond.selects yMO_wants.cls yMO_wants yMO_wants ∈ tc_T := tc_in (List.mem_append_left _ (List.mem_of_getElem? (i := 27) (by decide +kernel))) rfl
theorem YMO_ask : tc_Y yMO_ask cMO_ask 4 (some .boolean) 3 := ⟨tc_in (List.mem_append_right _ (List.mem_append_right _ (List.mem_append_left _ (List.mem_of_getElem? (i := 146) rfl)))) rfl, tc_in (List.mem_append_right _ (List.mem_append_left _ (List.mem_of_getElem? (i := 5) (by decide +kernel)))) rfl, by decide +kernel, by decide⟩
theorem IMO_ask : Cond.instanceMethod yMO_ask ∈ tc_T := tc_in (List.mem_append_right _ (List.mem_append_right _ (List.mem_append_left _ (List.mem_of_getElem? (i := 144) (by decide +kernel))))) rfl
theorem SMO_ask : Cond.selects yMO_ask.cls yMO_ask yMO_ask ∈ tc_T := tc_in (List.mem_append_right _ (List.mem_append_right _ (List.mem_append_left _ (List.mem_of_getElem? (i := 145) (by decide +kernel))))) rfl
theorem YMO_place : tc_Y yMO_place cMO_place 4 (some .int) 1 := ⟨tc_in (List.mem_append_right _ (List.mem_append_right _ (List.mem_append_left _ (List.mem_of_getElem? (i := 150) rfl)))) rfl, tc_in (List.mem_append_right _ (List.mem_append_left _ (List.mem_of_getElem? (i := 5) (by decide +kernel)))) rfl, by decide +kernel, by decide⟩
theorem IMO_place : Cond.instanceMethod yMO_place ∈ tc_T := tc_in (List.mem_append_right _ (List.mem_append_right _ (List.mem_append_left _ (List.mem_of_getElem? (i := 149) (by decide +kernel))))) rfl
theorem SMO_place : Cond.selects yMO_place.cls yMO_place yMO_place ∈ tc_T := tc_in (List.mem_append_left _ (List.mem_of_getElem? (i := 28) (by decide +kernel))) rfl
theorem YMO_drop : tc_Y yMO_drop cMO_drop 4 (some .boolean) 1 := ⟨tc_in (List.mem_append_right _ (List.mem_append_right _ (List.mem_append_left _ (List.mem_of_getElem? (i := 154) rfl)))) rfl, tc_in (List.mem_append_right _ (List.mem_append_left _ (List.mem_of_getElem? (i := 5) (by decide +kernel)))) rfl, by decide +kernel, by decide⟩
theorem IMO_drop : Cond.instanceMethod yMO_drop ∈ tc_T := tc_in (List.mem_append_right _ (List.mem_append_right _ (List.mem_append_left _ (List.mem_of_getElem? (i := 152) (by decide +kernel))))) rfl
theorem SMO_drop : Cond.selects yMO_drop.cls yMO_drop yMO_drop ∈ tc_T := tc_in (List.mem_append_right _ (List.mem_append_right _ (List.mem_append_left _ (List.mem_of_getElem? (i := 153) (by decide +kernel))))) rfl
theorem YMO_force : tc_Y yMO_force cMO_force 3 (some .boolean) 2 := ⟨tc_in (List.mem_append_right _ (List.mem_append_right _ (List.mem_append_left _ (List.mem_of_getElem? (i := 158) rfl)))) rfl, tc_in (List.mem_append_right _ (List.mem_append_left _ (List.mem_of_getElem? (i := 5) (by decide +kernel)))) rfl, by decide +kernel, by decide⟩
theorem IMO_force : Cond.instanceMethod yMO_force ∈ tc_T := tc_in (List.mem_append_right _ (List.mem_append_right _ (List.mem_append_left _ (List.mem_of_getElem? (i := 156) (by decide +kernel))))) rfl
theorem SMO_force : Cond.selects yMO_force.cls yMO_force yMO_force ∈ tc_T := tc_in (List.mem_append_right _ (List.mem_append_right _ (List.mem_append_left _ (List.mem_of_getElem? (i := 157) (by decide +kernel))))) rfl
theorem YMO_built : tc_Y yMO_built cMO_built 3 (some .boolean) 2 := ⟨tc_in (List.mem_append_right _ (List.mem_append_right _ (List.mem_append_left _ (List.mem_of_getElem? (i := 162) rfl)))) rfl, tc_in (List.mem_append_right _ (List.mem_append_left _ (List.mem_of_getElem? (i := 5) (by decide +kernel)))) rfl, by decide +kernel, by decide⟩
theorem IMO_built : Cond.instanceMethod yMO_built ∈ tc_T := tc_in (List.mem_append_right _ (List.mem_append_right _ (List.mem_append_left _ (List.mem_of_getElem? (i := 160) (by decide +kernel))))) rfl
theorem SMO_built : Cond.selects yMO_built.cls yMO_built yMO_built ∈ tc_T := tc_in (List.mem_append_right _ (List.mem_append_right _ (List.mem_append_left _ (List.mem_of_getElem? (i := 161) (by decide +kernel))))) rfl
theorem YMO_isPlatform : tc_Y yMO_isPlatform cMO_isPlatform 2 (some .boolean) 1 := ⟨tc_in (List.mem_append_right _ (List.mem_append_right _ (List.mem_append_left _ (List.mem_of_getElem? (i := 166) rfl)))) rfl, tc_in (List.mem_append_right _ (List.mem_append_left _ (List.mem_of_getElem? (i := 5) (by decide +kernel)))) rfl, by decide +kernel, by decide⟩
theorem IMO_isPlatform : Cond.instanceMethod yMO_isPlatform ∈ tc_T := tc_in (List.mem_append_right _ (List.mem_append_right _ (List.mem_append_left _ (List.mem_of_getElem? (i := 165) (by decide +kernel))))) rfl
theorem SMO_isPlatform : Cond.selects yMO_isPlatform.cls yMO_isPlatform yMO_isPlatform ∈ tc_T := tc_in (List.mem_append_left _ (List.mem_of_getElem? (i := 29) (by decide +kernel))) rfl
theorem YMO_build : tc_Y yMO_build cMO_build 4 (none) 0 := ⟨tc_in (List.mem_append_right _ (List.mem_append_right _ (List.mem_append_left _ (List.mem_of_getElem? (i := 170) rfl)))) rfl, tc_in (List.mem_append_right _ (List.mem_append_left _ (List.mem_of_getElem? (i := 5) (by decide +kernel)))) rfl, by decide +kernel, by decide⟩
theorem IMO_build : Cond.instanceMethod yMO_build ∈ tc_T := tc_in (List.mem_append_right _ (List.mem_append_right _ (List.mem_append_left _ (List.mem_of_getElem? (i := 169) (by decide +kernel))))) rfl
theorem SMO_build : Cond.selects yMO_build.cls yMO_build yMO_build ∈ tc_T := tc_in (List.mem_append_left _ (List.mem_of_getElem? (i := 30) (by decide +kernel))) rfl
theorem YMO_at : tc_Y yMO_at cMO_at 2 (some .int) 2 := ⟨tc_in (List.mem_append_right _ (List.mem_append_right _ (List.mem_append_left _ (List.mem_of_getElem? (i := 173) rfl)))) rfl, tc_in (List.mem_append_right _ (List.mem_append_left _ (List.mem_of_getElem? (i := 5) (by decide +kernel)))) rfl, by decide +kernel, by decide⟩
theorem YMO_runsOn : tc_Y yMO_runsOn cMO_runsOn 3 (some .boolean) 2 := ⟨tc_in (List.mem_append_right _ (List.mem_append_right _ (List.mem_append_left _ (List.mem_of_getElem? (i := 177) rfl)))) rfl, tc_in (List.mem_append_right _ (List.mem_append_left _ (List.mem_of_getElem? (i := 5) (by decide +kernel)))) rfl, by decide +kernel, by decide⟩
theorem IMO_runsOn : Cond.instanceMethod yMO_runsOn ∈ tc_T := tc_in (List.mem_append_right _ (List.mem_append_right _ (List.mem_append_left _ (List.mem_of_getElem? (i := 176) (by decide +kernel))))) rfl
theorem SMO_runsOn : Cond.selects yMO_runsOn.cls yMO_runsOn yMO_runsOn ∈ tc_T := tc_in (List.mem_append_left _ (List.mem_of_getElem? (i := 31) (by decide +kernel))) rfl
theorem YMO_lacking : tc_Y yMO_lacking cMO_lacking 4 (some .int) 2 := ⟨tc_in (List.mem_append_right _ (List.mem_append_right _ (List.mem_append_left _ (List.mem_of_getElem? (i := 181) rfl)))) rfl, tc_in (List.mem_append_right _ (List.mem_append_left _ (List.mem_of_getElem? (i := 5) (by decide +kernel)))) rfl, by decide +kernel, by decide⟩
theorem IMO_lacking : Cond.instanceMethod yMO_lacking ∈ tc_T := tc_in (List.mem_append_right _ (List.mem_append_right _ (List.mem_append_left _ (List.mem_of_getElem? (i := 180) (by decide +kernel))))) rfl
theorem SMO_lacking : Cond.selects yMO_lacking.cls yMO_lacking yMO_lacking ∈ tc_T := tc_in (List.mem_append_left _ (List.mem_of_getElem? (i := 32) (by decide +kernel))) rfl
theorem YMO_missing : tc_Y yMO_missing cMO_missing 4 (some .int) 2 := ⟨tc_in (List.mem_append_right _ (List.mem_append_right _ (List.mem_append_left _ (List.mem_of_getElem? (i := 185) rfl)))) rfl, tc_in (List.mem_append_right _ (List.mem_append_left _ (List.mem_of_getElem? (i := 5) (by decide +kernel)))) rfl, by decide +kernel, by decide⟩
theorem IMO_missing : Cond.instanceMethod yMO_missing ∈ tc_T := tc_in (List.mem_append_right _ (List.mem_append_right _ (List.mem_append_left _ (List.mem_of_getElem? (i := 184) (by decide +kernel))))) rfl
theorem SMO_missing : Cond.selects yMO_missing.cls yMO_missing yMO_missing ∈ tc_T := tc_in (List.mem_append_left _ (List.mem_of_getElem? (i := 33) (by decide +kernel))) rfl
theorem YMO_isThere : tc_Y yMO_isThere cMO_isThere 6 (some .boolean) 2 := ⟨tc_in (List.mem_append_right _ (List.mem_append_right _ (List.mem_append_left _ (List.mem_of_getElem? (i := 189) rfl)))) rfl, tc_in (List.mem_append_right _ (List.mem_append_left _ (List.mem_of_getElem? (i := 5) (by decide +kernel)))) rfl, by decide +kernel, by decide⟩
theorem IMO_isThere : Cond.instanceMethod yMO_isThere ∈ tc_T := tc_in (List.mem_append_right _ (List.mem_append_right _ (List.mem_append_left _ (List.mem_of_getElem? (i := 188) (by decide +kernel))))) rfl
theorem SMO_isThere : Cond.selects yMO_isThere.cls yMO_isThere yMO_isThere ∈ tc_T := tc_in (List.mem_append_left _ (List.mem_of_getElem? (i := 34) (by decide +kernel))) rfl
theorem YMO_makesFor : tc_Y yMO_makesFor cMO_makesFor 3 (some .boolean) 2 := ⟨tc_in (List.mem_append_right _ (List.mem_append_right _ (List.mem_append_left _ (List.mem_of_getElem? (i := 193) rfl)))) rfl, tc_in (List.mem_append_right _ (List.mem_append_left _ (List.mem_of_getElem? (i := 5) (by decide +kernel)))) rfl, by decide +kernel, by decide⟩
theorem IMO_makesFor : Cond.instanceMethod yMO_makesFor ∈ tc_T := tc_in (List.mem_append_right _ (List.mem_append_right _ (List.mem_append_left _ (List.mem_of_getElem? (i := 192) (by decide +kernel))))) rfl
theorem SMO_makesFor : Cond.selects yMO_makesFor.cls yMO_makesFor yMO_makesFor ∈ tc_T := tc_in (List.mem_append_left _ (List.mem_of_getElem? (i := 35) (by decide +kernel))) rfl
theorem YMO_choose : tc_Y yMO_choose cMO_choose 3 (some .int) 1 := ⟨tc_in (List.mem_append_right _ (List.mem_append_right _ (List.mem_append_left _ (List.mem_of_getElem? (i := 197) rfl)))) rfl, tc_in (List.mem_append_right _ (List.mem_append_left _ (List.mem_of_getElem? (i := 5) (by decide +kernel)))) rfl, by decide +kernel, by decide⟩
theorem IMO_choose : Cond.instanceMethod yMO_choose ∈ tc_T := tc_in (List.mem_append_right _ (List.mem_append_right _ (List.mem_append_left _ (List.mem_of_getElem? (i := 195) (by decide +kernel))))) rfl
theorem SMO_choose : Cond.selects yMO_choose.cls yMO_choose yMO_choose ∈ tc_T := tc_in (List.mem_append_right _ (List.mem_append_right _ (List.mem_append_left _ (List.mem_of_getElem? (i := 196) (by decide +kernel))))) rfl
theorem YMO_tryOn : tc_Y yMO_tryOn cMO_tryOn 5 (some .boolean) 2 := ⟨tc_in (List.mem_append_right _ (List.mem_append_right _ (List.mem_append_left _ (List.mem_of_getElem? (i := 201) rfl)))) rfl, tc_in (List.mem_append_right _ (List.mem_append_left _ (List.mem_of_getElem? (i := 5) (by decide +kernel)))) rfl, by decide +kernel, by decide⟩
theorem IMO_tryOn : Cond.instanceMethod yMO_tryOn ∈ tc_T := tc_in (List.mem_append_right _ (List.mem_append_right _ (List.mem_append_left _ (List.mem_of_getElem? (i := 200) (by decide +kernel))))) rfl
theorem SMO_tryOn : Cond.selects yMO_tryOn.cls yMO_tryOn yMO_tryOn ∈ tc_T := tc_in (List.mem_append_left _ (List.mem_of_getElem? (i := 36) (by decide +kernel))) rfl
theorem YMO_look : tc_Y yMO_look cMO_look 7 (some .int) 3 := ⟨tc_in (List.mem_append_right _ (List.mem_append_right _ (List.mem_append_left _ (List.mem_of_getElem? (i := 205) rfl)))) rfl, tc_in (List.mem_append_right _ (List.mem_append_left _ (List.mem_of_getElem? (i := 5) (by decide +kernel)))) rfl, by decide +kernel, by decide⟩
theorem IMO_look : Cond.instanceMethod yMO_look ∈ tc_T := tc_in (List.mem_append_right _ (List.mem_append_right _ (List.mem_append_left _ (List.mem_of_getElem? (i := 204) (by decide +kernel))))) rfl
theorem SMO_look : Cond.selects yMO_look.cls yMO_look yMO_look ∈ tc_T := tc_in (List.mem_append_left _ (List.mem_of_getElem? (i := 37) (by decide +kernel))) rfl
theorem YMO_why : tc_Y yMO_why cMO_why 4 (some .int) 3 := ⟨tc_in (List.mem_append_right _ (List.mem_append_right _ (List.mem_append_left _ (List.mem_of_getElem? (i := 209) rfl)))) rfl, tc_in (List.mem_append_right _ (List.mem_append_left _ (List.mem_of_getElem? (i := 5) (by decide +kernel)))) rfl, by decide +kernel, by decide⟩
theorem IMO_why : Cond.instanceMethod yMO_why ∈ tc_T := tc_in (List.mem_append_right _ (List.mem_append_right _ (List.mem_append_left _ (List.mem_of_getElem? (i := 208) (by decide +kernel))))) rfl
theorem SMO_why : Cond.selects yMO_why.cls yMO_why yMO_why ∈ tc_T := tc_in (List.mem_append_left _ (List.mem_of_getElem? (i := 38) (by decide +kernel))) rfl
theorem YMO_tell : tc_Y yMO_tell cMO_tell 5 (none) 4 := ⟨tc_in (List.mem_append_right _ (List.mem_append_right _ (List.mem_append_left _ (List.mem_of_getElem? (i := 213) rfl)))) rfl, tc_in (List.mem_append_right _ (List.mem_append_left _ (List.mem_of_getElem? (i := 5) (by decide +kernel)))) rfl, by decide +kernel, by decide⟩
theorem IMO_tell : Cond.instanceMethod yMO_tell ∈ tc_T := tc_in (List.mem_append_right _ (List.mem_append_right _ (List.mem_append_left _ (List.mem_of_getElem? (i := 212) (by decide +kernel))))) rfl
theorem SMO_tell : Cond.selects yMO_tell.cls yMO_tell yMO_tell ∈ tc_T := tc_in (List.mem_append_left _ (List.mem_of_getElem? (i := 39) (by decide +kernel))) rfl
theorem YMO_chosen : tc_Y yMO_chosen cMO_chosen 2 (some .int) 1 := ⟨tc_in (List.mem_append_right _ (List.mem_append_right _ (List.mem_append_left _ (List.mem_of_getElem? (i := 217) rfl)))) rfl, tc_in (List.mem_append_right _ (List.mem_append_left _ (List.mem_of_getElem? (i := 5) (by decide +kernel)))) rfl, by decide +kernel, by decide⟩
theorem IMO_chosen : Cond.instanceMethod yMO_chosen ∈ tc_T := tc_in (List.mem_append_right _ (List.mem_append_right _ (List.mem_append_left _ (List.mem_of_getElem? (i := 215) (by decide +kernel))))) rfl
theorem SMO_chosen : Cond.selects yMO_chosen.cls yMO_chosen yMO_chosen ∈ tc_T := tc_in (List.mem_append_right _ (List.mem_append_right _ (List.mem_append_left _ (List.mem_of_getElem? (i := 216) (by decide +kernel))))) rfl
theorem YMO_rows : tc_Y yMO_rows cMO_rows 1 (some .int) 0 := ⟨tc_in (List.mem_append_right _ (List.mem_append_right _ (List.mem_append_left _ (List.mem_of_getElem? (i := 221) rfl)))) rfl, tc_in (List.mem_append_right _ (List.mem_append_left _ (List.mem_of_getElem? (i := 5) (by decide +kernel)))) rfl, by decide +kernel, by decide⟩
theorem IMO_rows : Cond.instanceMethod yMO_rows ∈ tc_T := tc_in (List.mem_append_right _ (List.mem_append_right _ (List.mem_append_left _ (List.mem_of_getElem? (i := 219) (by decide +kernel))))) rfl
theorem SMO_rows : Cond.selects yMO_rows.cls yMO_rows yMO_rows ∈ tc_T := tc_in (List.mem_append_right _ (List.mem_append_right _ (List.mem_append_left _ (List.mem_of_getElem? (i := 220) (by decide +kernel))))) rfl
theorem YMO_row : tc_Y yMO_row cMO_row 3 (some .int) 2 := ⟨tc_in (List.mem_append_right _ (List.mem_append_right _ (List.mem_append_left _ (List.mem_of_getElem? (i := 225) rfl)))) rfl, tc_in (List.mem_append_right _ (List.mem_append_left _ (List.mem_of_getElem? (i := 5) (by decide +kernel)))) rfl, by decide +kernel, by decide⟩
theorem IMO_row : Cond.instanceMethod yMO_row ∈ tc_T := tc_in (List.mem_append_right _ (List.mem_append_right _ (List.mem_append_left _ (List.mem_of_getElem? (i := 223) (by decide +kernel))))) rfl
theorem SMO_row : Cond.selects yMO_row.cls yMO_row yMO_row ∈ tc_T := tc_in (List.mem_append_right _ (List.mem_append_right _ (List.mem_append_left _ (List.mem_of_getElem? (i := 224) (by decide +kernel))))) rfl
theorem YMO_ring : tc_Y yMO_ring cMO_ring 4 (some .int) 1 := ⟨tc_in (List.mem_append_right _ (List.mem_append_right _ (List.mem_append_left _ (List.mem_of_getElem? (i := 229) rfl)))) rfl, tc_in (List.mem_append_right _ (List.mem_append_left _ (List.mem_of_getElem? (i := 5) (by decide +kernel)))) rfl, by decide +kernel, by decide⟩
theorem IMO_ring : Cond.instanceMethod yMO_ring ∈ tc_T := tc_in (List.mem_append_right _ (List.mem_append_right _ (List.mem_append_left _ (List.mem_of_getElem? (i := 227) (by decide +kernel))))) rfl
theorem SMO_ring : Cond.selects yMO_ring.cls yMO_ring yMO_ring ∈ tc_T := tc_in (List.mem_append_right _ (List.mem_append_right _ (List.mem_append_left _ (List.mem_of_getElem? (i := 228) (by decide +kernel))))) rfl
theorem YMO_isRing : tc_Y yMO_isRing cMO_isRing 4 (some .boolean) 1 := ⟨tc_in (List.mem_append_right _ (List.mem_append_right _ (List.mem_append_left _ (List.mem_of_getElem? (i := 233) rfl)))) rfl, tc_in (List.mem_append_right _ (List.mem_append_left _ (List.mem_of_getElem? (i := 5) (by decide +kernel)))) rfl, by decide +kernel, by decide⟩
theorem IMO_isRing : Cond.instanceMethod yMO_isRing ∈ tc_T := tc_in (List.mem_append_right _ (List.mem_append_right _ (List.mem_append_left _ (List.mem_of_getElem? (i := 232) (by decide +kernel))))) rfl
theorem SMO_isRing : Cond.selects yMO_isRing.cls yMO_isRing yMO_isRing ∈ tc_T := tc_in (List.mem_append_left _ (List.mem_of_getElem? (i := 40) (by decide +kernel))) rfl
theorem YMO_comesBack : tc_Y yMO_comesBack cMO_comesBack 5 (some .boolean) 1 := ⟨tc_in (List.mem_append_right _ (List.mem_append_right _ (List.mem_append_left _ (List.mem_of_getElem? (i := 237) rfl)))) rfl, tc_in (List.mem_append_right _ (List.mem_append_left _ (List.mem_of_getElem? (i := 5) (by decide +kernel)))) rfl, by decide +kernel, by decide⟩
theorem IMO_comesBack : Cond.instanceMethod yMO_comesBack ∈ tc_T := tc_in (List.mem_append_right _ (List.mem_append_right _ (List.mem_append_left _ (List.mem_of_getElem? (i := 236) (by decide +kernel))))) rfl
theorem SMO_comesBack : Cond.selects yMO_comesBack.cls yMO_comesBack yMO_comesBack ∈ tc_T := tc_in (List.mem_append_left _ (List.mem_of_getElem? (i := 41) (by decide +kernel))) rfl
theorem YMO_isPlace : tc_Y yMO_isPlace cMO_isPlace 2 (some .boolean) 1 := ⟨tc_in (List.mem_append_right _ (List.mem_append_right _ (List.mem_append_right _ (List.mem_of_getElem? (i := 1) rfl)))) rfl, tc_in (List.mem_append_right _ (List.mem_append_left _ (List.mem_of_getElem? (i := 5) (by decide +kernel)))) rfl, by decide +kernel, by decide⟩
theorem IMO_isPlace : Cond.instanceMethod yMO_isPlace ∈ tc_T := tc_in (List.mem_append_right _ (List.mem_append_right _ (List.mem_append_right _ (List.mem_of_getElem? (i := 0) (by decide +kernel))))) rfl
theorem SMO_isPlace : Cond.selects yMO_isPlace.cls yMO_isPlace yMO_isPlace ∈ tc_T := tc_in (List.mem_append_left _ (List.mem_of_getElem? (i := 42) (by decide +kernel))) rfl
theorem YMO_leads : tc_Y yMO_leads cMO_leads 5 (some .boolean) 2 := ⟨tc_in (List.mem_append_right _ (List.mem_append_right _ (List.mem_append_right _ (List.mem_of_getElem? (i := 5) rfl)))) rfl, tc_in (List.mem_append_right _ (List.mem_append_left _ (List.mem_of_getElem? (i := 5) (by decide +kernel)))) rfl, by decide +kernel, by decide⟩
theorem IMO_leads : Cond.instanceMethod yMO_leads ∈ tc_T := tc_in (List.mem_append_right _ (List.mem_append_right _ (List.mem_append_right _ (List.mem_of_getElem? (i := 4) (by decide +kernel))))) rfl
theorem SMO_leads : Cond.selects yMO_leads.cls yMO_leads yMO_leads ∈ tc_T := tc_in (List.mem_append_left _ (List.mem_of_getElem? (i := 43) (by decide +kernel))) rfl
theorem lLW_9 : Cond.methodLink RLW 9 yTC_init ∈ tc_T := tc_in (List.mem_append_right _ (List.mem_append_left _ (List.mem_of_getElem? (i := 8) (by decide +kernel)))) rfl
theorem oTC_3 : Cond.methodLink RTC 3 objectInit ∈ tc_T := tc_in (List.mem_append_right _ (List.mem_append_left _ (List.mem_of_getElem? (i := 11) (by decide +kernel)))) rfl
theorem oAK_3 : Cond.methodLink RAK 3 objectInit ∈ tc_T := tc_in (List.mem_append_right _ (List.mem_append_left _ (List.mem_of_getElem? (i := 19) (by decide +kernel)))) rfl
theorem oRO_3 : Cond.methodLink RRO 3 objectInit ∈ tc_T := tc_in (List.mem_append_right _ (List.mem_append_left _ (List.mem_of_getElem? (i := 40) (by decide +kernel)))) rfl
theorem kTC_76 : tc_KS RTC 76 yAR_fill cAR_fill 4 (none) 2 := ⟨YAR_fill, tc_in (List.mem_append_right _ (List.mem_append_left _ (List.mem_of_getElem? (i := 48) (by decide +kernel)))) rfl, tc_in (List.mem_append_right _ (List.mem_append_left _ (List.mem_of_getElem? (i := 49) (by decide +kernel)))) rfl⟩
theorem kLW_13 : tc_KV RLW 13 yTC_platform cTC_platform 2 (some .int) 1 2 TTC 19 := ⟨YTC_platform, tc_in (List.mem_append_right _ (List.mem_append_left _ (List.mem_of_getElem? (i := 109) (by decide +kernel)))) rfl, ITC_platform, STC_platform, rfl⟩
theorem kLW_18 : tc_KV RLW 18 yTC_tool cTC_tool 6 (some .int) 4 2 TTC 19 := ⟨YTC_tool, tc_in (List.mem_append_right _ (List.mem_append_left _ (List.mem_of_getElem? (i := 113) (by decide +kernel)))) rfl, ITC_tool, STC_tool, rfl⟩
theorem kTC_82 : tc_KS RTC 82 yTC_isKind cTC_isKind 1 (some .boolean) 1 := ⟨YTC_isKind, tc_in (List.mem_append_right _ (List.mem_append_left _ (List.mem_of_getElem? (i := 117) (by decide +kernel)))) rfl, tc_in (List.mem_append_right _ (List.mem_append_left _ (List.mem_of_getElem? (i := 118) (by decide +kernel)))) rfl⟩
theorem kLW_23 : tc_KV RLW 23 yTC_order cTC_order 5 (some .boolean) 2 2 TTC 19 := ⟨YTC_order, tc_in (List.mem_append_right _ (List.mem_append_left _ (List.mem_of_getElem? (i := 120) (by decide +kernel)))) rfl, ITC_order, STC_order, rfl⟩
theorem kTC_86 : tc_KV RTC 86 yTC_isTool cTC_isTool 2 (some .boolean) 1 2 TTC 19 := ⟨YTC_isTool, tc_in (List.mem_append_right _ (List.mem_append_left _ (List.mem_of_getElem? (i := 124) (by decide +kernel)))) rfl, ITC_isTool, STC_isTool, rfl⟩
theorem kTC_89 : tc_KV RTC 89 yTC_placeOf cTC_placeOf 3 (some .int) 1 2 TTC 19 := ⟨YTC_placeOf, tc_in (List.mem_append_right _ (List.mem_append_left _ (List.mem_of_getElem? (i := 128) (by decide +kernel)))) rfl, ITC_placeOf, STC_placeOf, rfl⟩
theorem kLW_28 : tc_KV RLW 28 yTC_needs cTC_needs 3 (some .boolean) 2 2 TTC 19 := ⟨YTC_needs, tc_in (List.mem_append_right _ (List.mem_append_left _ (List.mem_of_getElem? (i := 132) (by decide +kernel)))) rfl, ITC_needs, STC_needs, rfl⟩
theorem kTC_93 : tc_KS RTC 93 yTC_hasBit cTC_hasBit 2 (some .boolean) 2 := ⟨YTC_hasBit, tc_in (List.mem_append_right _ (List.mem_append_left _ (List.mem_of_getElem? (i := 136) (by decide +kernel)))) rfl, tc_in (List.mem_append_right _ (List.mem_append_left _ (List.mem_of_getElem? (i := 137) (by decide +kernel)))) rfl⟩
theorem kLW_32 : tc_KV RLW 32 yTC_ask cTC_ask 4 (some .boolean) 3 2 TTC 19 := ⟨YTC_ask, tc_in (List.mem_append_right _ (List.mem_append_left _ (List.mem_of_getElem? (i := 139) (by decide +kernel)))) rfl, ITC_ask, STC_ask, rfl⟩
theorem kAK_26 : tc_KV RAK 26 yAK_find cAK_find 3 (some .int) 1 0 TAK 4 := ⟨YAK_find, tc_in (List.mem_append_right _ (List.mem_append_left _ (List.mem_of_getElem? (i := 147) (by decide +kernel)))) rfl, IAK_find, SAK_find, rfl⟩
theorem kLW_37 : tc_KV RLW 37 yTC_drop cTC_drop 2 (some .boolean) 1 2 TTC 19 := ⟨YTC_drop, tc_in (List.mem_append_right _ (List.mem_append_left _ (List.mem_of_getElem? (i := 151) (by decide +kernel)))) rfl, ITC_drop, STC_drop, rfl⟩
theorem kLW_42 : tc_KV RLW 42 yTC_force cTC_force 3 (some .boolean) 2 2 TTC 19 := ⟨YTC_force, tc_in (List.mem_append_right _ (List.mem_append_left _ (List.mem_of_getElem? (i := 159) (by decide +kernel)))) rfl, ITC_force, STC_force, rfl⟩
theorem kLW_46 : tc_KV RLW 46 yTC_choose cTC_choose 3 (some .int) 1 2 TTC 19 := ⟨YTC_choose, tc_in (List.mem_append_right _ (List.mem_append_left _ (List.mem_of_getElem? (i := 163) (by decide +kernel)))) rfl, ITC_choose, STC_choose, rfl⟩
theorem kTC_104 : tc_KV RTC 104 yTC_isPlatform cTC_isPlatform 2 (some .boolean) 1 2 TTC 19 := ⟨YTC_isPlatform, tc_in (List.mem_append_right _ (List.mem_append_left _ (List.mem_of_getElem? (i := 167) (by decide +kernel)))) rfl, ITC_isPlatform, STC_isPlatform, rfl⟩
theorem kTC_107 : tc_KV RTC 107 yTC_settleBuilt cTC_settleBuilt 3 (none) 0 2 TTC 19 := ⟨YTC_settleBuilt, tc_in (List.mem_append_right _ (List.mem_append_left _ (List.mem_of_getElem? (i := 171) (by decide +kernel)))) rfl, ITC_settleBuilt, STC_settleBuilt, rfl⟩
theorem kTC_158 : tc_KV RTC 158 yTC_platformsHaving cTC_platformsHaving 4 (some .int) 1 2 TTC 19 := ⟨YTC_platformsHaving, tc_in (List.mem_append_right _ (List.mem_append_left _ (List.mem_of_getElem? (i := 175) (by decide +kernel)))) rfl, ITC_platformsHaving, STC_platformsHaving, rfl⟩
theorem kTC_161 : tc_KV RTC 161 yTC_growBuilt cTC_growBuilt 4 (some .boolean) 0 2 TTC 19 := ⟨YTC_growBuilt, tc_in (List.mem_append_right _ (List.mem_append_left _ (List.mem_of_getElem? (i := 179) (by decide +kernel)))) rfl, ITC_growBuilt, STC_growBuilt, rfl⟩
theorem kTC_165 : tc_KV RTC 165 yTC_platformsWithSupplies cTC_platformsWithSupplies 4 (some .int) 1 2 TTC 19 := ⟨YTC_platformsWithSupplies, tc_in (List.mem_append_right _ (List.mem_append_left _ (List.mem_of_getElem? (i := 183) (by decide +kernel)))) rfl, ITC_platformsWithSupplies, STC_platformsWithSupplies, rfl⟩
theorem kTC_113 : tc_KV RTC 113 yTC_takeTools cTC_takeTools 5 (some .boolean) 2 2 TTC 19 := ⟨YTC_takeTools, tc_in (List.mem_append_right _ (List.mem_append_left _ (List.mem_of_getElem? (i := 191) (by decide +kernel)))) rfl, ITC_takeTools, STC_takeTools, rfl⟩
theorem kTC_131 : tc_KV RTC 131 yTC_firstGood cTC_firstGood 7 (some .int) 3 2 TTC 19 := ⟨YTC_firstGood, tc_in (List.mem_append_right _ (List.mem_append_left _ (List.mem_of_getElem? (i := 203) (by decide +kernel)))) rfl, ITC_firstGood, STC_firstGood, rfl⟩
theorem kTC_138 : tc_KV RTC 138 yTC_whyNot cTC_whyNot 5 (some .int) 3 2 TTC 19 := ⟨YTC_whyNot, tc_in (List.mem_append_right _ (List.mem_append_left _ (List.mem_of_getElem? (i := 207) (by decide +kernel)))) rfl, ITC_whyNot, STC_whyNot, rfl⟩
theorem kTC_141 : tc_KV RTC 141 yTC_lackOf cTC_lackOf 5 (some .int) 4 2 TTC 19 := ⟨YTC_lackOf, tc_in (List.mem_append_right _ (List.mem_append_left _ (List.mem_of_getElem? (i := 215) (by decide +kernel)))) rfl, ITC_lackOf, STC_lackOf, rfl⟩
theorem kTC_152 : tc_KS RTC 152 yTC_lowestBit cTC_lowestBit 2 (some .int) 1 := ⟨YTC_lowestBit, tc_in (List.mem_append_right _ (List.mem_append_left _ (List.mem_of_getElem? (i := 219) (by decide +kernel)))) rfl, tc_in (List.mem_append_right _ (List.mem_append_left _ (List.mem_of_getElem? (i := 220) (by decide +kernel)))) rfl⟩
theorem kTC_155 : tc_KV RTC 155 yTC_lowestUnsupplied cTC_lowestUnsupplied 4 (some .int) 2 2 TTC 19 := ⟨YTC_lowestUnsupplied, tc_in (List.mem_append_right _ (List.mem_append_left _ (List.mem_of_getElem? (i := 222) (by decide +kernel)))) rfl, ITC_lowestUnsupplied, STC_lowestUnsupplied, rfl⟩
theorem kLW_50 : tc_KV RLW 50 yTC_chosen cTC_chosen 2 (some .int) 1 2 TTC 19 := ⟨YTC_chosen, tc_in (List.mem_append_right _ (List.mem_append_left _ (List.mem_of_getElem? (i := 234) (by decide +kernel)))) rfl, ITC_chosen, STC_chosen, rfl⟩
theorem kLW_54 : tc_KV RLW 54 yTC_rows cTC_rows 1 (some .int) 0 2 TTC 19 := ⟨YTC_rows, tc_in (List.mem_append_right _ (List.mem_append_left _ (List.mem_of_getElem? (i := 238) (by decide +kernel)))) rfl, ITC_rows, STC_rows, rfl⟩
theorem kLW_59 : tc_KV RLW 59 yTC_row cTC_row 3 (some .int) 2 2 TTC 19 := ⟨YTC_row, tc_in (List.mem_append_right _ (List.mem_append_right _ (List.mem_append_left _ (List.mem_of_getElem? (i := 6) (by decide +kernel))))) rfl, ITC_row, STC_row, rfl⟩
theorem kLW_64 : tc_KV RLW 64 yTC_built cTC_built 3 (some .boolean) 2 2 TTC 19 := ⟨YTC_built, tc_in (List.mem_append_right _ (List.mem_append_right _ (List.mem_append_left _ (List.mem_of_getElem? (i := 14) (by decide +kernel))))) rfl, ITC_built, STC_built, rfl⟩
theorem kLW_68 : tc_KV RLW 68 yTC_ring cTC_ring 4 (some .int) 1 2 TTC 19 := ⟨YTC_ring, tc_in (List.mem_append_right _ (List.mem_append_right _ (List.mem_append_left _ (List.mem_of_getElem? (i := 18) (by decide +kernel))))) rfl, ITC_ring, STC_ring, rfl⟩
theorem kTC_124 : tc_KV RTC 124 yTC_settleLeads cTC_settleLeads 3 (none) 0 2 TTC 19 := ⟨YTC_settleLeads, tc_in (List.mem_append_right _ (List.mem_append_right _ (List.mem_append_left _ (List.mem_of_getElem? (i := 22) (by decide +kernel))))) rfl, ITC_settleLeads, STC_settleLeads, rfl⟩
theorem kTC_168 : tc_KV RTC 168 yTC_stepsFrom cTC_stepsFrom 6 (some .int) 1 2 TTC 19 := ⟨YTC_stepsFrom, tc_in (List.mem_append_right _ (List.mem_append_right _ (List.mem_append_left _ (List.mem_of_getElem? (i := 26) (by decide +kernel))))) rfl, ITC_stepsFrom, STC_stepsFrom, rfl⟩
theorem kTC_171 : tc_KV RTC 171 yTC_unbuiltOn cTC_unbuiltOn 2 (some .int) 1 2 TTC 19 := ⟨YTC_unbuiltOn, tc_in (List.mem_append_right _ (List.mem_append_right _ (List.mem_append_left _ (List.mem_of_getElem? (i := 30) (by decide +kernel))))) rfl, ITC_unbuiltOn, STC_unbuiltOn, rfl⟩
theorem lLW_12 : Cond.methodLink RLW 12 yMO_init ∈ tc_T := tc_in (List.mem_append_right _ (List.mem_append_right _ (List.mem_append_left _ (List.mem_of_getElem? (i := 36) (by decide +kernel))))) rfl
theorem oMO_1 : Cond.methodLink RMO 1 objectInit ∈ tc_T := tc_in (List.mem_append_right _ (List.mem_append_right _ (List.mem_append_left _ (List.mem_of_getElem? (i := 39) (by decide +kernel))))) rfl
theorem kLW_17 : tc_KV RLW 17 yMO_platform cMO_platform 2 (some .int) 1 3 TMO 25 := ⟨YMO_platform, tc_in (List.mem_append_right _ (List.mem_append_right _ (List.mem_append_left _ (List.mem_of_getElem? (i := 116) (by decide +kernel))))) rfl, IMO_platform, SMO_platform, rfl⟩
theorem kLW_22 : tc_KV RLW 22 yMO_tool cMO_tool 5 (some .int) 4 3 TMO 25 := ⟨YMO_tool, tc_in (List.mem_append_right _ (List.mem_append_right _ (List.mem_append_left _ (List.mem_of_getElem? (i := 120) (by decide +kernel))))) rfl, IMO_tool, SMO_tool, rfl⟩
theorem kMO_78 : tc_KS RMO 78 yMO_isKind cMO_isKind 1 (some .boolean) 1 := ⟨YMO_isKind, tc_in (List.mem_append_right _ (List.mem_append_right _ (List.mem_append_left _ (List.mem_of_getElem? (i := 124) (by decide +kernel))))) rfl, tc_in (List.mem_append_right _ (List.mem_append_right _ (List.mem_append_left _ (List.mem_of_getElem? (i := 125) (by decide +kernel))))) rfl⟩
theorem kLW_27 : tc_KV RLW 27 yMO_order cMO_order 5 (some .boolean) 2 3 TMO 25 := ⟨YMO_order, tc_in (List.mem_append_right _ (List.mem_append_right _ (List.mem_append_left _ (List.mem_of_getElem? (i := 127) (by decide +kernel))))) rfl, IMO_order, SMO_order, rfl⟩
theorem kMO_82 : tc_KV RMO 82 yMO_isTool cMO_isTool 2 (some .boolean) 1 3 TMO 25 := ⟨YMO_isTool, tc_in (List.mem_append_right _ (List.mem_append_right _ (List.mem_append_left _ (List.mem_of_getElem? (i := 131) (by decide +kernel))))) rfl, IMO_isTool, SMO_isTool, rfl⟩
theorem kLW_31 : tc_KV RLW 31 yMO_needs cMO_needs 3 (some .boolean) 2 3 TMO 25 := ⟨YMO_needs, tc_in (List.mem_append_right _ (List.mem_append_right _ (List.mem_append_left _ (List.mem_of_getElem? (i := 135) (by decide +kernel))))) rfl, IMO_needs, SMO_needs, rfl⟩
theorem kMO_88 : tc_KV RMO 88 yMO_wants cMO_wants 5 (some .boolean) 2 3 TMO 25 := ⟨YMO_wants, tc_in (List.mem_append_right _ (List.mem_append_right _ (List.mem_append_left _ (List.mem_of_getElem? (i := 139) (by decide +kernel))))) rfl, IMO_wants, SMO_wants, rfl⟩
theorem kLW_36 : tc_KV RLW 36 yMO_ask cMO_ask 4 (some .boolean) 3 3 TMO 25 := ⟨YMO_ask, tc_in (List.mem_append_right _ (List.mem_append_right _ (List.mem_append_left _ (List.mem_of_getElem? (i := 143) (by decide +kernel))))) rfl, IMO_ask, SMO_ask, rfl⟩
theorem kMO_95 : tc_KV RMO 95 yMO_place cMO_place 4 (some .int) 1 3 TMO 25 := ⟨YMO_place, tc_in (List.mem_append_right _ (List.mem_append_right _ (List.mem_append_left _ (List.mem_of_getElem? (i := 147) (by decide +kernel))))) rfl, IMO_place, SMO_place, rfl⟩
theorem kLW_41 : tc_KV RLW 41 yMO_drop cMO_drop 4 (some .boolean) 1 3 TMO 25 := ⟨YMO_drop, tc_in (List.mem_append_right _ (List.mem_append_right _ (List.mem_append_left _ (List.mem_of_getElem? (i := 151) (by decide +kernel))))) rfl, IMO_drop, SMO_drop, rfl⟩
theorem kLW_45 : tc_KV RLW 45 yMO_force cMO_force 3 (some .boolean) 2 3 TMO 25 := ⟨YMO_force, tc_in (List.mem_append_right _ (List.mem_append_right _ (List.mem_append_left _ (List.mem_of_getElem? (i := 155) (by decide +kernel))))) rfl, IMO_force, SMO_force, rfl⟩
theorem kLW_67 : tc_KV RLW 67 yMO_built cMO_built 3 (some .boolean) 2 3 TMO 25 := ⟨YMO_built, tc_in (List.mem_append_right _ (List.mem_append_right _ (List.mem_append_left _ (List.mem_of_getElem? (i := 159) (by decide +kernel))))) rfl, IMO_built, SMO_built, rfl⟩
theorem kMO_118 : tc_KV RMO 118 yMO_isPlatform cMO_isPlatform 2 (some .boolean) 1 3 TMO 25 := ⟨YMO_isPlatform, tc_in (List.mem_append_right _ (List.mem_append_right _ (List.mem_append_left _ (List.mem_of_getElem? (i := 163) (by decide +kernel))))) rfl, IMO_isPlatform, SMO_isPlatform, rfl⟩
theorem kMO_121 : tc_KV RMO 121 yMO_build cMO_build 4 (none) 0 3 TMO 25 := ⟨YMO_build, tc_in (List.mem_append_right _ (List.mem_append_right _ (List.mem_append_left _ (List.mem_of_getElem? (i := 167) (by decide +kernel))))) rfl, IMO_build, SMO_build, rfl⟩
theorem kMO_106 : tc_KS RMO 106 yMO_at cMO_at 2 (some .int) 2 := ⟨YMO_at, tc_in (List.mem_append_right _ (List.mem_append_right _ (List.mem_append_left _ (List.mem_of_getElem? (i := 171) (by decide +kernel))))) rfl, tc_in (List.mem_append_right _ (List.mem_append_right _ (List.mem_append_left _ (List.mem_of_getElem? (i := 172) (by decide +kernel))))) rfl⟩
theorem kMO_112 : tc_KV RMO 112 yMO_runsOn cMO_runsOn 3 (some .boolean) 2 3 TMO 25 := ⟨YMO_runsOn, tc_in (List.mem_append_right _ (List.mem_append_right _ (List.mem_append_left _ (List.mem_of_getElem? (i := 174) (by decide +kernel))))) rfl, IMO_runsOn, SMO_runsOn, rfl⟩
theorem kMO_99 : tc_KV RMO 99 yMO_lacking cMO_lacking 4 (some .int) 2 3 TMO 25 := ⟨YMO_lacking, tc_in (List.mem_append_right _ (List.mem_append_right _ (List.mem_append_left _ (List.mem_of_getElem? (i := 178) (by decide +kernel))))) rfl, IMO_lacking, SMO_lacking, rfl⟩
theorem kMO_115 : tc_KV RMO 115 yMO_missing cMO_missing 4 (some .int) 2 3 TMO 25 := ⟨YMO_missing, tc_in (List.mem_append_right _ (List.mem_append_right _ (List.mem_append_left _ (List.mem_of_getElem? (i := 182) (by decide +kernel))))) rfl, IMO_missing, SMO_missing, rfl⟩
theorem kMO_109 : tc_KV RMO 109 yMO_isThere cMO_isThere 6 (some .boolean) 2 3 TMO 25 := ⟨YMO_isThere, tc_in (List.mem_append_right _ (List.mem_append_right _ (List.mem_append_left _ (List.mem_of_getElem? (i := 186) (by decide +kernel))))) rfl, IMO_isThere, SMO_isThere, rfl⟩
theorem kMO_103 : tc_KV RMO 103 yMO_makesFor cMO_makesFor 3 (some .boolean) 2 3 TMO 25 := ⟨YMO_makesFor, tc_in (List.mem_append_right _ (List.mem_append_right _ (List.mem_append_left _ (List.mem_of_getElem? (i := 190) (by decide +kernel))))) rfl, IMO_makesFor, SMO_makesFor, rfl⟩
theorem kLW_49 : tc_KV RLW 49 yMO_choose cMO_choose 3 (some .int) 1 3 TMO 25 := ⟨YMO_choose, tc_in (List.mem_append_right _ (List.mem_append_right _ (List.mem_append_left _ (List.mem_of_getElem? (i := 194) (by decide +kernel))))) rfl, IMO_choose, SMO_choose, rfl⟩
theorem kMO_138 : tc_KV RMO 138 yMO_tryOn cMO_tryOn 5 (some .boolean) 2 3 TMO 25 := ⟨YMO_tryOn, tc_in (List.mem_append_right _ (List.mem_append_right _ (List.mem_append_left _ (List.mem_of_getElem? (i := 198) (by decide +kernel))))) rfl, IMO_tryOn, SMO_tryOn, rfl⟩
theorem kMO_135 : tc_KV RMO 135 yMO_look cMO_look 7 (some .int) 3 3 TMO 25 := ⟨YMO_look, tc_in (List.mem_append_right _ (List.mem_append_right _ (List.mem_append_left _ (List.mem_of_getElem? (i := 202) (by decide +kernel))))) rfl, IMO_look, SMO_look, rfl⟩
theorem kMO_127 : tc_KV RMO 127 yMO_why cMO_why 4 (some .int) 3 3 TMO 25 := ⟨YMO_why, tc_in (List.mem_append_right _ (List.mem_append_right _ (List.mem_append_left _ (List.mem_of_getElem? (i := 206) (by decide +kernel))))) rfl, IMO_why, SMO_why, rfl⟩
theorem kMO_131 : tc_KV RMO 131 yMO_tell cMO_tell 5 (none) 4 3 TMO 25 := ⟨YMO_tell, tc_in (List.mem_append_right _ (List.mem_append_right _ (List.mem_append_left _ (List.mem_of_getElem? (i := 210) (by decide +kernel))))) rfl, IMO_tell, SMO_tell, rfl⟩
theorem kLW_53 : tc_KV RLW 53 yMO_chosen cMO_chosen 2 (some .int) 1 3 TMO 25 := ⟨YMO_chosen, tc_in (List.mem_append_right _ (List.mem_append_right _ (List.mem_append_left _ (List.mem_of_getElem? (i := 214) (by decide +kernel))))) rfl, IMO_chosen, SMO_chosen, rfl⟩
theorem kLW_58 : tc_KV RLW 58 yMO_rows cMO_rows 1 (some .int) 0 3 TMO 25 := ⟨YMO_rows, tc_in (List.mem_append_right _ (List.mem_append_right _ (List.mem_append_left _ (List.mem_of_getElem? (i := 218) (by decide +kernel))))) rfl, IMO_rows, SMO_rows, rfl⟩
theorem kLW_63 : tc_KV RLW 63 yMO_row cMO_row 3 (some .int) 2 3 TMO 25 := ⟨YMO_row, tc_in (List.mem_append_right _ (List.mem_append_right _ (List.mem_append_left _ (List.mem_of_getElem? (i := 222) (by decide +kernel))))) rfl, IMO_row, SMO_row, rfl⟩
theorem kLW_71 : tc_KV RLW 71 yMO_ring cMO_ring 4 (some .int) 1 3 TMO 25 := ⟨YMO_ring, tc_in (List.mem_append_right _ (List.mem_append_right _ (List.mem_append_left _ (List.mem_of_getElem? (i := 226) (by decide +kernel))))) rfl, IMO_ring, SMO_ring, rfl⟩
theorem kMO_150 : tc_KV RMO 150 yMO_isRing cMO_isRing 4 (some .boolean) 1 3 TMO 25 := ⟨YMO_isRing, tc_in (List.mem_append_right _ (List.mem_append_right _ (List.mem_append_left _ (List.mem_of_getElem? (i := 230) (by decide +kernel))))) rfl, IMO_isRing, SMO_isRing, rfl⟩
theorem kMO_147 : tc_KV RMO 147 yMO_comesBack cMO_comesBack 5 (some .boolean) 1 3 TMO 25 := ⟨YMO_comesBack, tc_in (List.mem_append_right _ (List.mem_append_right _ (List.mem_append_left _ (List.mem_of_getElem? (i := 234) (by decide +kernel))))) rfl, IMO_comesBack, SMO_comesBack, rfl⟩
theorem kMO_141 : tc_KV RMO 141 yMO_isPlace cMO_isPlace 2 (some .boolean) 1 3 TMO 25 := ⟨YMO_isPlace, tc_in (List.mem_append_right _ (List.mem_append_right _ (List.mem_append_left _ (List.mem_of_getElem? (i := 238) (by decide +kernel))))) rfl, IMO_isPlace, SMO_isPlace, rfl⟩
theorem kMO_144 : tc_KV RMO 144 yMO_leads cMO_leads 5 (some .boolean) 2 3 TMO 25 := ⟨YMO_leads, tc_in (List.mem_append_right _ (List.mem_append_right _ (List.mem_append_right _ (List.mem_of_getElem? (i := 2) (by decide +kernel))))) rfl, IMO_leads, SMO_leads, rfl⟩
theorem nTC_43 : (RTC, 43, yAK_init, RTC) ∈ tc_nest := List.mem_of_getElem? (i := 0) rfl
theorem nTC_56 : (RTC, 56, yRO_init, RTC) ∈ tc_nest := List.mem_of_getElem? (i := 1) rfl
theorem nTC_97 : (RTC, 97, yAK_put, RTC) ∈ tc_nest := List.mem_of_getElem? (i := 2) rfl
theorem kTC_97 : tc_KN RTC 97 yAK_put cAK_put 4 (none) 3 0 TAK 4 RTC := ⟨YAK_put, nTC_97, IAK_put, SAK_put, rfl⟩
theorem nTC_101 : (RTC, 101, yAK_remove, RTC) ∈ tc_nest := List.mem_of_getElem? (i := 3) rfl
theorem kTC_101 : tc_KN RTC 101 yAK_remove cAK_remove 4 (some .boolean) 1 0 TAK 4 RTC := ⟨YAK_remove, nTC_101, IAK_remove, SAK_remove, rfl⟩
theorem nTC_110 : (RTC, 110, yRO_clear, RTC) ∈ tc_nest := List.mem_of_getElem? (i := 4) rfl
theorem kTC_110 : tc_KN RTC 110 yRO_clear cRO_clear 1 (none) 0 1 TRO 2 RTC := ⟨YRO_clear, nTC_110, IRO_clear, SRO_clear, rfl⟩
theorem nTC_127 : (RTC, 127, yAK_size, RTC) ∈ tc_nest := List.mem_of_getElem? (i := 5) rfl
theorem kTC_127 : tc_KN RTC 127 yAK_size cAK_size 1 (some .int) 0 0 TAK 4 RTC := ⟨YAK_size, nTC_127, IAK_size, SAK_size, rfl⟩
theorem nTC_128 : (RTC, 128, yAK_kindAt, RTC) ∈ tc_nest := List.mem_of_getElem? (i := 6) rfl
theorem kTC_128 : tc_KN RTC 128 yAK_kindAt cAK_kindAt 2 (some .int) 1 0 TAK 4 RTC := ⟨YAK_kindAt, nTC_128, IAK_kindAt, SAK_kindAt, rfl⟩
theorem nTC_149 : (RTC, 149, yAK_leastVersion, RTC) ∈ tc_nest := List.mem_of_getElem? (i := 7) rfl
theorem kTC_149 : tc_KN RTC 149 yAK_leastVersion cAK_leastVersion 2 (some .int) 1 0 TAK 4 RTC := ⟨YAK_leastVersion, nTC_149, IAK_leastVersion, SAK_leastVersion, rfl⟩
theorem nTC_145 : (RTC, 145, yRO_add, RTC) ∈ tc_nest := List.mem_of_getElem? (i := 8) rfl
theorem kTC_145 : tc_KN RTC 145 yRO_add cRO_add 6 (none) 4 1 TRO 2 RTC := ⟨YRO_add, nTC_145, IRO_add, SRO_add, rfl⟩
theorem nTC_135 : (RTC, 135, yAK_isNeeded, RTC) ∈ tc_nest := List.mem_of_getElem? (i := 9) rfl
theorem kTC_135 : tc_KN RTC 135 yAK_isNeeded cAK_isNeeded 2 (some .boolean) 1 0 TAK 4 RTC := ⟨YAK_isNeeded, nTC_135, IAK_isNeeded, SAK_isNeeded, rfl⟩
theorem nTC_116 : (RTC, 116, yRO_size, RTC) ∈ tc_nest := List.mem_of_getElem? (i := 10) rfl
theorem kTC_116 : tc_KN RTC 116 yRO_size cRO_size 1 (some .int) 0 1 TRO 2 RTC := ⟨YRO_size, nTC_116, IRO_size, SRO_size, rfl⟩
theorem nTC_120 : (RTC, 120, yRO_cell, RTC) ∈ tc_nest := List.mem_of_getElem? (i := 11) rfl
theorem kTC_120 : tc_KN RTC 120 yRO_cell cRO_cell 3 (some .int) 2 1 TRO 2 RTC := ⟨YRO_cell, nTC_120, IRO_cell, SRO_cell, rfl⟩
theorem clLW_7 : Cond.classLink RLW 7 RTC ∈ tc_T := tc_in (List.mem_append_right _ (List.mem_append_left _ (List.mem_of_getElem? (i := 6) (by decide +kernel)))) rfl
theorem inTC : Cond.instantiable RTC 19 ∈ tc_T := tc_in (List.mem_append_right _ (List.mem_append_left _ (List.mem_of_getElem? (i := 7) (by decide +kernel)))) rfl
theorem itTC : Cond.initialized RTC ∈ tc_T := tc_in (List.mem_append_right _ (List.mem_append_left _ (List.mem_of_getElem? (i := 1) (by decide +kernel)))) rfl
theorem oI_ : Cond.instanceMethod objectInit ∈ tc_T := tc_in (List.mem_append_right _ (List.mem_append_left _ (List.mem_of_getElem? (i := 12) (by decide +kernel)))) rfl
theorem oC_ : Cond.code objectInit ⟨#[0xb1]⟩ 1 none ∈ tc_T := tc_in (List.mem_append_right _ (List.mem_append_left _ (List.mem_of_getElem? (i := 13) rfl))) rfl
theorem clTC_41 : Cond.classLink RTC 41 RAK ∈ tc_T := tc_in (List.mem_append_right _ (List.mem_append_left _ (List.mem_of_getElem? (i := 14) (by decide +kernel)))) rfl
theorem inAK : Cond.instantiable RAK 4 ∈ tc_T := tc_in (List.mem_append_right _ (List.mem_append_left _ (List.mem_of_getElem? (i := 15) (by decide +kernel)))) rfl
theorem itAK : Cond.initialized RAK ∈ tc_T := tc_in (List.mem_append_right _ (List.mem_append_left _ (List.mem_of_getElem? (i := 2) (by decide +kernel)))) rfl
theorem ar_int : Cond.arrayClass .int ∈ tc_T := tc_in (List.mem_append_right _ (List.mem_append_left _ (List.mem_of_getElem? (i := 33) (by decide +kernel)))) rfl
theorem ar_boolean : Cond.arrayClass .boolean ∈ tc_T := tc_in (List.mem_append_right _ (List.mem_append_left _ (List.mem_of_getElem? (i := 34) (by decide +kernel)))) rfl
theorem clTC_54 : Cond.classLink RTC 54 RRO ∈ tc_T := tc_in (List.mem_append_right _ (List.mem_append_left _ (List.mem_of_getElem? (i := 35) (by decide +kernel)))) rfl
theorem inRO : Cond.instantiable RRO 2 ∈ tc_T := tc_in (List.mem_append_right _ (List.mem_append_left _ (List.mem_of_getElem? (i := 36) (by decide +kernel)))) rfl
theorem itRO : Cond.initialized RRO ∈ tc_T := tc_in (List.mem_append_right _ (List.mem_append_left _ (List.mem_of_getElem? (i := 3) (by decide +kernel)))) rfl
theorem clLW_10 : Cond.classLink RLW 10 RMO ∈ tc_T := tc_in (List.mem_append_right _ (List.mem_append_right _ (List.mem_append_left _ (List.mem_of_getElem? (i := 34) (by decide +kernel))))) rfl
theorem inMO : Cond.instantiable RMO 25 ∈ tc_T := tc_in (List.mem_append_right _ (List.mem_append_right _ (List.mem_append_left _ (List.mem_of_getElem? (i := 35) (by decide +kernel))))) rfl
theorem itMO : Cond.initialized RMO ∈ tc_T := tc_in (List.mem_append_right _ (List.mem_append_left _ (List.mem_of_getElem? (i := 5) (by decide +kernel)))) rfl
end
