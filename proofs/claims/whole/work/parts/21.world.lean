def tc_hC (σ : tcS) : List tcC := [
  .inr (2, [.inr (some 1), .inl (nI (σ.2.2.2 0)), .inr (some 2), .inr (some 3), .inr (some 4), .inr (some 5), .inr (some 6), .inr (some 7), .inl (nI (σ.2.2.2 1)), .inl (nI (σ.2.2.2 2)), .inr (some 8), .inr (some 12), .inr (some 13), .inr (some 14), .inr (some 16), .inr (some 17), .inr (some 18), .inr (some 19), .inr (some 20)]),
  .inl (0, 6, .inl (σ.1 0)),
  .inl (0, 24, .inl (fun j => nI (σ.2.1 0 j))),
  .inl (0, 24, .inl (σ.1 1)),
  .inl (0, 24, .inl (σ.1 2)),
  .inl (0, 24, .inl (σ.1 3)),
  .inl (0, 24, .inl (σ.1 4)),
  .inl (0, 24, .inl (fun j => nI (σ.2.1 1 j))),
  .inr (0, [.inr (some 9), .inr (some 10), .inr (some 11), .inl (nI (σ.2.2.2 3))]),
  .inl (0, 8, .inl (fun j => nI (σ.2.1 2 j))),
  .inl (0, 8, .inl (σ.1 10)),
  .inl (1, 8, .inl (σ.1 11)),
  .inl (0, 8, .inl (fun j => tc_oI (σ.2.2.1 0 j))),
  .inl (0, 8, .inl (fun j => tc_oI (σ.2.2.1 1 j))),
  .inr (1, [.inr (some 15), .inl (nI (σ.2.2.2 4))]),
  .inl (0, 576, .inl (σ.1 12)),
  .inl (0, 24, .inl (σ.1 5)),
  .inl (0, 24, .inl (σ.1 6)),
  .inl (0, 24, .inl (σ.1 7)),
  .inl (0, 8, .inl (σ.1 8)),
  .inl (0, 24, .inl (σ.1 9))]
section CW
variable {M : tcM} {K : tcK} {pc : Nat} {L : List (Option tcV)} {st : List tcV}
theorem tc_upd2 {f : Nat → Nat} {t v : Nat} : upd (fun j => nI (f j)) t (nI v) = fun j => nI (va_up f t v j) := by
  funext j
  unfold upd va_up
  split <;> rfl
theorem tc_upd3 {f : Nat → Option Nat} {t : Nat} {v : Option Nat} : upd (fun j => tc_oI (f j)) t (tc_oI v) = fun j => tc_oI (va_up f t v j) := by
  funext j
  unfold upd va_up
  split <;> rfl
theorem ldC_1 {σ : tcS} {t : Nat} (hd : decode M.1 pc = .ok (.iaload, 1)) (ht : t < 6) (k : tc_V M K (tc_hC σ) (pc + 1) L (.inl (σ.1 0 t) :: st)) : tc_V M K (tc_hC σ) pc L (.inl (nI t) :: .inr (some 1) :: st) := tv_ialdN hd rfl (by decide) ht k
theorem stC_1 {σ : tcS} {t : Nat} {x : Int32} (hd : decode M.1 pc = .ok (.iastore, 1)) (ht : t < 6) (k : tc_V M K (tc_hC (tc_s1 σ 0 (upd (σ.1 0) t x))) (pc + 1) L st) : tc_V M K (tc_hC σ) pc L (.inl x :: .inl (nI t) :: .inr (some 1) :: st) := tv_iastN hd rfl (by decide) ht rfl k
theorem ldC_2 {σ : tcS} {t : Nat} (hd : decode M.1 pc = .ok (.iaload, 1)) (ht : t < 24) (k : tc_V M K (tc_hC σ) (pc + 1) L (.inl (nI (σ.2.1 0 t)) :: st)) : tc_V M K (tc_hC σ) pc L (.inl (nI t) :: .inr (some 2) :: st) := tv_ialdN hd rfl (by decide) ht k
theorem stC_2 {σ : tcS} {t v : Nat} (hd : decode M.1 pc = .ok (.iastore, 1)) (ht : t < 24) (k : tc_V M K (tc_hC (tc_s2 σ 0 (va_up (σ.2.1 0) t v))) (pc + 1) L st) : tc_V M K (tc_hC σ) pc L (.inl (nI v) :: .inl (nI t) :: .inr (some 2) :: st) := tv_iastN hd rfl (by decide) ht (by rw [tc_upd2]; rfl) k
theorem ldC_3 {σ : tcS} {t : Nat} (hd : decode M.1 pc = .ok (.iaload, 1)) (ht : t < 24) (k : tc_V M K (tc_hC σ) (pc + 1) L (.inl (σ.1 1 t) :: st)) : tc_V M K (tc_hC σ) pc L (.inl (nI t) :: .inr (some 3) :: st) := tv_ialdN hd rfl (by decide) ht k
theorem stC_3 {σ : tcS} {t : Nat} {x : Int32} (hd : decode M.1 pc = .ok (.iastore, 1)) (ht : t < 24) (k : tc_V M K (tc_hC (tc_s1 σ 1 (upd (σ.1 1) t x))) (pc + 1) L st) : tc_V M K (tc_hC σ) pc L (.inl x :: .inl (nI t) :: .inr (some 3) :: st) := tv_iastN hd rfl (by decide) ht rfl k
theorem ldC_4 {σ : tcS} {t : Nat} (hd : decode M.1 pc = .ok (.iaload, 1)) (ht : t < 24) (k : tc_V M K (tc_hC σ) (pc + 1) L (.inl (σ.1 2 t) :: st)) : tc_V M K (tc_hC σ) pc L (.inl (nI t) :: .inr (some 4) :: st) := tv_ialdN hd rfl (by decide) ht k
theorem stC_4 {σ : tcS} {t : Nat} {x : Int32} (hd : decode M.1 pc = .ok (.iastore, 1)) (ht : t < 24) (k : tc_V M K (tc_hC (tc_s1 σ 2 (upd (σ.1 2) t x))) (pc + 1) L st) : tc_V M K (tc_hC σ) pc L (.inl x :: .inl (nI t) :: .inr (some 4) :: st) := tv_iastN hd rfl (by decide) ht rfl k
theorem ldC_5 {σ : tcS} {t : Nat} (hd : decode M.1 pc = .ok (.iaload, 1)) (ht : t < 24) (k : tc_V M K (tc_hC σ) (pc + 1) L (.inl (σ.1 3 t) :: st)) : tc_V M K (tc_hC σ) pc L (.inl (nI t) :: .inr (some 5) :: st) := tv_ialdN hd rfl (by decide) ht k
theorem stC_5 {σ : tcS} {t : Nat} {x : Int32} (hd : decode M.1 pc = .ok (.iastore, 1)) (ht : t < 24) (k : tc_V M K (tc_hC (tc_s1 σ 3 (upd (σ.1 3) t x))) (pc + 1) L st) : tc_V M K (tc_hC σ) pc L (.inl x :: .inl (nI t) :: .inr (some 5) :: st) := tv_iastN hd rfl (by decide) ht rfl k
theorem ldC_6 {σ : tcS} {t : Nat} (hd : decode M.1 pc = .ok (.iaload, 1)) (ht : t < 24) (k : tc_V M K (tc_hC σ) (pc + 1) L (.inl (σ.1 4 t) :: st)) : tc_V M K (tc_hC σ) pc L (.inl (nI t) :: .inr (some 6) :: st) := tv_ialdN hd rfl (by decide) ht k
theorem stC_6 {σ : tcS} {t : Nat} {x : Int32} (hd : decode M.1 pc = .ok (.iastore, 1)) (ht : t < 24) (k : tc_V M K (tc_hC (tc_s1 σ 4 (upd (σ.1 4) t x))) (pc + 1) L st) : tc_V M K (tc_hC σ) pc L (.inl x :: .inl (nI t) :: .inr (some 6) :: st) := tv_iastN hd rfl (by decide) ht rfl k
theorem ldC_7 {σ : tcS} {t : Nat} (hd : decode M.1 pc = .ok (.iaload, 1)) (ht : t < 24) (k : tc_V M K (tc_hC σ) (pc + 1) L (.inl (nI (σ.2.1 1 t)) :: st)) : tc_V M K (tc_hC σ) pc L (.inl (nI t) :: .inr (some 7) :: st) := tv_ialdN hd rfl (by decide) ht k
theorem stC_7 {σ : tcS} {t v : Nat} (hd : decode M.1 pc = .ok (.iastore, 1)) (ht : t < 24) (k : tc_V M K (tc_hC (tc_s2 σ 1 (va_up (σ.2.1 1) t v))) (pc + 1) L st) : tc_V M K (tc_hC σ) pc L (.inl (nI v) :: .inl (nI t) :: .inr (some 7) :: st) := tv_iastN hd rfl (by decide) ht (by rw [tc_upd2]; rfl) k
theorem ldC_9 {σ : tcS} {t : Nat} (hd : decode M.1 pc = .ok (.iaload, 1)) (ht : t < 8) (k : tc_V M K (tc_hC σ) (pc + 1) L (.inl (nI (σ.2.1 2 t)) :: st)) : tc_V M K (tc_hC σ) pc L (.inl (nI t) :: .inr (some 9) :: st) := tv_ialdN hd rfl (by decide) ht k
theorem stC_9 {σ : tcS} {t v : Nat} (hd : decode M.1 pc = .ok (.iastore, 1)) (ht : t < 8) (k : tc_V M K (tc_hC (tc_s2 σ 2 (va_up (σ.2.1 2) t v))) (pc + 1) L st) : tc_V M K (tc_hC σ) pc L (.inl (nI v) :: .inl (nI t) :: .inr (some 9) :: st) := tv_iastN hd rfl (by decide) ht (by rw [tc_upd2]; rfl) k
theorem ldC_10 {σ : tcS} {t : Nat} (hd : decode M.1 pc = .ok (.iaload, 1)) (ht : t < 8) (k : tc_V M K (tc_hC σ) (pc + 1) L (.inl (σ.1 10 t) :: st)) : tc_V M K (tc_hC σ) pc L (.inl (nI t) :: .inr (some 10) :: st) := tv_ialdN hd rfl (by decide) ht k
theorem stC_10 {σ : tcS} {t : Nat} {x : Int32} (hd : decode M.1 pc = .ok (.iastore, 1)) (ht : t < 8) (k : tc_V M K (tc_hC (tc_s1 σ 10 (upd (σ.1 10) t x))) (pc + 1) L st) : tc_V M K (tc_hC σ) pc L (.inl x :: .inl (nI t) :: .inr (some 10) :: st) := tv_iastN hd rfl (by decide) ht rfl k
theorem ldC_11 {σ : tcS} {t : Nat} (hd : decode M.1 pc = .ok (.baload, 1)) (ht : t < 8) (k : tc_V M K (tc_hC σ) (pc + 1) L (.inl (σ.1 11 t) :: st)) : tc_V M K (tc_hC σ) pc L (.inl (nI t) :: .inr (some 11) :: st) := tv_zaldN hd rfl (by decide) ht k
theorem stC_11 {σ : tcS} {t : Nat} {x : Int32} (hd : decode M.1 pc = .ok (.bastore, 1)) (ht : t < 8) (hx : vp_nar .boolean x = x) (k : tc_V M K (tc_hC (tc_s1 σ 11 (upd (σ.1 11) t x))) (pc + 1) L st) : tc_V M K (tc_hC σ) pc L (.inl x :: .inl (nI t) :: .inr (some 11) :: st) := tv_zastN hd rfl (by decide) ht hx rfl k
theorem ldC_12 {σ : tcS} {t : Nat} (hd : decode M.1 pc = .ok (.iaload, 1)) (ht : t < 8) (k : tc_V M K (tc_hC σ) (pc + 1) L (.inl (tc_oI (σ.2.2.1 0 t)) :: st)) : tc_V M K (tc_hC σ) pc L (.inl (nI t) :: .inr (some 12) :: st) := tv_ialdN hd rfl (by decide) ht k
theorem stC_12 {σ : tcS} {t : Nat} (v : Option Nat) (hd : decode M.1 pc = .ok (.iastore, 1)) (ht : t < 8) (k : tc_V M K (tc_hC (tc_s3 σ 0 (va_up (σ.2.2.1 0) t v))) (pc + 1) L st) : tc_V M K (tc_hC σ) pc L (.inl (tc_oI v) :: .inl (nI t) :: .inr (some 12) :: st) := tv_iastN hd rfl (by decide) ht (by rw [tc_upd3]; rfl) k
theorem ldC_13 {σ : tcS} {t : Nat} (hd : decode M.1 pc = .ok (.iaload, 1)) (ht : t < 8) (k : tc_V M K (tc_hC σ) (pc + 1) L (.inl (tc_oI (σ.2.2.1 1 t)) :: st)) : tc_V M K (tc_hC σ) pc L (.inl (nI t) :: .inr (some 13) :: st) := tv_ialdN hd rfl (by decide) ht k
theorem stC_13 {σ : tcS} {t : Nat} (v : Option Nat) (hd : decode M.1 pc = .ok (.iastore, 1)) (ht : t < 8) (k : tc_V M K (tc_hC (tc_s3 σ 1 (va_up (σ.2.2.1 1) t v))) (pc + 1) L st) : tc_V M K (tc_hC σ) pc L (.inl (tc_oI v) :: .inl (nI t) :: .inr (some 13) :: st) := tv_iastN hd rfl (by decide) ht (by rw [tc_upd3]; rfl) k
theorem ldC_15 {σ : tcS} {t : Nat} (hd : decode M.1 pc = .ok (.iaload, 1)) (ht : t < 576) (k : tc_V M K (tc_hC σ) (pc + 1) L (.inl (σ.1 12 t) :: st)) : tc_V M K (tc_hC σ) pc L (.inl (nI t) :: .inr (some 15) :: st) := tv_ialdN hd rfl (by decide) ht k
theorem stC_15 {σ : tcS} {t : Nat} {x : Int32} (hd : decode M.1 pc = .ok (.iastore, 1)) (ht : t < 576) (k : tc_V M K (tc_hC (tc_s1 σ 12 (upd (σ.1 12) t x))) (pc + 1) L st) : tc_V M K (tc_hC σ) pc L (.inl x :: .inl (nI t) :: .inr (some 15) :: st) := tv_iastN hd rfl (by decide) ht rfl k
theorem ldC_16 {σ : tcS} {t : Nat} (hd : decode M.1 pc = .ok (.iaload, 1)) (ht : t < 24) (k : tc_V M K (tc_hC σ) (pc + 1) L (.inl (σ.1 5 t) :: st)) : tc_V M K (tc_hC σ) pc L (.inl (nI t) :: .inr (some 16) :: st) := tv_ialdN hd rfl (by decide) ht k
theorem stC_16 {σ : tcS} {t : Nat} {x : Int32} (hd : decode M.1 pc = .ok (.iastore, 1)) (ht : t < 24) (k : tc_V M K (tc_hC (tc_s1 σ 5 (upd (σ.1 5) t x))) (pc + 1) L st) : tc_V M K (tc_hC σ) pc L (.inl x :: .inl (nI t) :: .inr (some 16) :: st) := tv_iastN hd rfl (by decide) ht rfl k
theorem ldC_17 {σ : tcS} {t : Nat} (hd : decode M.1 pc = .ok (.iaload, 1)) (ht : t < 24) (k : tc_V M K (tc_hC σ) (pc + 1) L (.inl (σ.1 6 t) :: st)) : tc_V M K (tc_hC σ) pc L (.inl (nI t) :: .inr (some 17) :: st) := tv_ialdN hd rfl (by decide) ht k
theorem stC_17 {σ : tcS} {t : Nat} {x : Int32} (hd : decode M.1 pc = .ok (.iastore, 1)) (ht : t < 24) (k : tc_V M K (tc_hC (tc_s1 σ 6 (upd (σ.1 6) t x))) (pc + 1) L st) : tc_V M K (tc_hC σ) pc L (.inl x :: .inl (nI t) :: .inr (some 17) :: st) := tv_iastN hd rfl (by decide) ht rfl k
theorem ldC_18 {σ : tcS} {t : Nat} (hd : decode M.1 pc = .ok (.iaload, 1)) (ht : t < 24) (k : tc_V M K (tc_hC σ) (pc + 1) L (.inl (σ.1 7 t) :: st)) : tc_V M K (tc_hC σ) pc L (.inl (nI t) :: .inr (some 18) :: st) := tv_ialdN hd rfl (by decide) ht k
theorem stC_18 {σ : tcS} {t : Nat} {x : Int32} (hd : decode M.1 pc = .ok (.iastore, 1)) (ht : t < 24) (k : tc_V M K (tc_hC (tc_s1 σ 7 (upd (σ.1 7) t x))) (pc + 1) L st) : tc_V M K (tc_hC σ) pc L (.inl x :: .inl (nI t) :: .inr (some 18) :: st) := tv_iastN hd rfl (by decide) ht rfl k
theorem ldC_19 {σ : tcS} {t : Nat} (hd : decode M.1 pc = .ok (.iaload, 1)) (ht : t < 8) (k : tc_V M K (tc_hC σ) (pc + 1) L (.inl (σ.1 8 t) :: st)) : tc_V M K (tc_hC σ) pc L (.inl (nI t) :: .inr (some 19) :: st) := tv_ialdN hd rfl (by decide) ht k
theorem stC_19 {σ : tcS} {t : Nat} {x : Int32} (hd : decode M.1 pc = .ok (.iastore, 1)) (ht : t < 8) (k : tc_V M K (tc_hC (tc_s1 σ 8 (upd (σ.1 8) t x))) (pc + 1) L st) : tc_V M K (tc_hC σ) pc L (.inl x :: .inl (nI t) :: .inr (some 19) :: st) := tv_iastN hd rfl (by decide) ht rfl k
theorem ldC_20 {σ : tcS} {t : Nat} (hd : decode M.1 pc = .ok (.iaload, 1)) (ht : t < 24) (k : tc_V M K (tc_hC σ) (pc + 1) L (.inl (σ.1 9 t) :: st)) : tc_V M K (tc_hC σ) pc L (.inl (nI t) :: .inr (some 20) :: st) := tv_ialdN hd rfl (by decide) ht k
theorem stC_20 {σ : tcS} {t : Nat} {x : Int32} (hd : decode M.1 pc = .ok (.iastore, 1)) (ht : t < 24) (k : tc_V M K (tc_hC (tc_s1 σ 9 (upd (σ.1 9) t x))) (pc + 1) L st) : tc_V M K (tc_hC σ) pc L (.inl x :: .inl (nI t) :: .inr (some 20) :: st) := tv_iastN hd rfl (by decide) ht rfl k
theorem gAK_22 {σ : tcS} (hM : M.2.2.1 = RAK) (hd : decode M.1 pc = .ok (.getfield 22, 3)) (k : tc_V M K (tc_hC σ) (pc + 3) L (.inl (nI (σ.2.2.2 3)) :: st)) : tc_V M K (tc_hC σ) pc L (.inr (some 8) :: st) := tv_get (by rw [hM]; exact fAK_22) hd rfl rfl k
theorem gAK_9 {σ : tcS} (hM : M.2.2.1 = RAK) (hd : decode M.1 pc = .ok (.getfield 9, 3)) (k : tc_V M K (tc_hC σ) (pc + 3) L (.inr (some 9) :: st)) : tc_V M K (tc_hC σ) pc L (.inr (some 8) :: st) := tv_get (by rw [hM]; exact fAK_9) hd rfl rfl k
theorem gAK_15 {σ : tcS} (hM : M.2.2.1 = RAK) (hd : decode M.1 pc = .ok (.getfield 15, 3)) (k : tc_V M K (tc_hC σ) (pc + 3) L (.inr (some 10) :: st)) : tc_V M K (tc_hC σ) pc L (.inr (some 8) :: st) := tv_get (by rw [hM]; exact fAK_15) hd rfl rfl k
theorem gAK_18 {σ : tcS} (hM : M.2.2.1 = RAK) (hd : decode M.1 pc = .ok (.getfield 18, 3)) (k : tc_V M K (tc_hC σ) (pc + 3) L (.inr (some 11) :: st)) : tc_V M K (tc_hC σ) pc L (.inr (some 8) :: st) := tv_get (by rw [hM]; exact fAK_18) hd rfl rfl k
theorem pAK_22 {σ : tcS} {v : Nat} (hM : M.2.2.1 = RAK) (hd : decode M.1 pc = .ok (.putfield 22, 3)) (k : tc_V M K (tc_hC (tc_s4 σ 3 v)) (pc + 3) L st) : tc_V M K (tc_hC σ) pc L (.inl (nI v) :: .inr (some 8) :: st) := tv_put (by rw [hM]; exact fAK_22) ftAK rfl rfl hd rfl (Nat.le_of_ble_eq_true rfl) rfl rfl k
theorem pRO_15 {σ : tcS} {v : Nat} (hM : M.2.2.1 = RRO) (hd : decode M.1 pc = .ok (.putfield 15, 3)) (k : tc_V M K (tc_hC (tc_s4 σ 4 v)) (pc + 3) L st) : tc_V M K (tc_hC σ) pc L (.inl (nI v) :: .inr (some 14) :: st) := tv_put (by rw [hM]; exact fRO_15) ftRO rfl rfl hd rfl (Nat.le_of_ble_eq_true rfl) rfl rfl k
theorem gRO_15 {σ : tcS} (hM : M.2.2.1 = RRO) (hd : decode M.1 pc = .ok (.getfield 15, 3)) (k : tc_V M K (tc_hC σ) (pc + 3) L (.inl (nI (σ.2.2.2 4)) :: st)) : tc_V M K (tc_hC σ) pc L (.inr (some 14) :: st) := tv_get (by rw [hM]; exact fRO_15) hd rfl rfl k
theorem gRO_11 {σ : tcS} (hM : M.2.2.1 = RRO) (hd : decode M.1 pc = .ok (.getfield 11, 3)) (k : tc_V M K (tc_hC σ) (pc + 3) L (.inr (some 15) :: st)) : tc_V M K (tc_hC σ) pc L (.inr (some 14) :: st) := tv_get (by rw [hM]; exact fRO_11) hd rfl rfl k
theorem gTC_13 {σ : tcS} (hM : M.2.2.1 = RTC) (hd : decode M.1 pc = .ok (.getfield 13, 3)) (k : tc_V M K (tc_hC σ) (pc + 3) L (.inl (nI (σ.2.2.2 0)) :: st)) : tc_V M K (tc_hC σ) pc L (.inr (some 0) :: st) := tv_get (by rw [hM]; exact fTC_13) hd rfl rfl k
theorem gTC_9 {σ : tcS} (hM : M.2.2.1 = RTC) (hd : decode M.1 pc = .ok (.getfield 9, 3)) (k : tc_V M K (tc_hC σ) (pc + 3) L (.inr (some 1) :: st)) : tc_V M K (tc_hC σ) pc L (.inr (some 0) :: st) := tv_get (by rw [hM]; exact fTC_9) hd rfl rfl k
theorem pTC_13 {σ : tcS} {v : Nat} (hM : M.2.2.1 = RTC) (hd : decode M.1 pc = .ok (.putfield 13, 3)) (k : tc_V M K (tc_hC (tc_s4 σ 0 v)) (pc + 3) L st) : tc_V M K (tc_hC σ) pc L (.inl (nI v) :: .inr (some 0) :: st) := tv_put (by rw [hM]; exact fTC_13) ftTC rfl rfl hd rfl (Nat.le_of_ble_eq_true rfl) rfl rfl k
theorem gTC_35 {σ : tcS} (hM : M.2.2.1 = RTC) (hd : decode M.1 pc = .ok (.getfield 35, 3)) (k : tc_V M K (tc_hC σ) (pc + 3) L (.inl (nI (σ.2.2.2 1)) :: st)) : tc_V M K (tc_hC σ) pc L (.inr (some 0) :: st) := tv_get (by rw [hM]; exact fTC_35) hd rfl rfl k
theorem gTC_17 {σ : tcS} (hM : M.2.2.1 = RTC) (hd : decode M.1 pc = .ok (.getfield 17, 3)) (k : tc_V M K (tc_hC σ) (pc + 3) L (.inr (some 2) :: st)) : tc_V M K (tc_hC σ) pc L (.inr (some 0) :: st) := tv_get (by rw [hM]; exact fTC_17) hd rfl rfl k
theorem gTC_20 {σ : tcS} (hM : M.2.2.1 = RTC) (hd : decode M.1 pc = .ok (.getfield 20, 3)) (k : tc_V M K (tc_hC σ) (pc + 3) L (.inr (some 3) :: st)) : tc_V M K (tc_hC σ) pc L (.inr (some 0) :: st) := tv_get (by rw [hM]; exact fTC_20) hd rfl rfl k
theorem gTC_23 {σ : tcS} (hM : M.2.2.1 = RTC) (hd : decode M.1 pc = .ok (.getfield 23, 3)) (k : tc_V M K (tc_hC σ) (pc + 3) L (.inr (some 4) :: st)) : tc_V M K (tc_hC σ) pc L (.inr (some 0) :: st) := tv_get (by rw [hM]; exact fTC_23) hd rfl rfl k
theorem gTC_26 {σ : tcS} (hM : M.2.2.1 = RTC) (hd : decode M.1 pc = .ok (.getfield 26, 3)) (k : tc_V M K (tc_hC σ) (pc + 3) L (.inr (some 5) :: st)) : tc_V M K (tc_hC σ) pc L (.inr (some 0) :: st) := tv_get (by rw [hM]; exact fTC_26) hd rfl rfl k
theorem gTC_32 {σ : tcS} (hM : M.2.2.1 = RTC) (hd : decode M.1 pc = .ok (.getfield 32, 3)) (k : tc_V M K (tc_hC σ) (pc + 3) L (.inr (some 7) :: st)) : tc_V M K (tc_hC σ) pc L (.inr (some 0) :: st) := tv_get (by rw [hM]; exact fTC_32) hd rfl rfl k
theorem pTC_35 {σ : tcS} {v : Nat} (hM : M.2.2.1 = RTC) (hd : decode M.1 pc = .ok (.putfield 35, 3)) (k : tc_V M K (tc_hC (tc_s4 σ 1 v)) (pc + 3) L st) : tc_V M K (tc_hC σ) pc L (.inl (nI v) :: .inr (some 0) :: st) := tv_put (by rw [hM]; exact fTC_35) ftTC rfl rfl hd rfl (Nat.le_of_ble_eq_true rfl) rfl rfl k
theorem gTC_29 {σ : tcS} (hM : M.2.2.1 = RTC) (hd : decode M.1 pc = .ok (.getfield 29, 3)) (k : tc_V M K (tc_hC σ) (pc + 3) L (.inr (some 6) :: st)) : tc_V M K (tc_hC σ) pc L (.inr (some 0) :: st) := tv_get (by rw [hM]; exact fTC_29) hd rfl rfl k
theorem gTC_38 {σ : tcS} (hM : M.2.2.1 = RTC) (hd : decode M.1 pc = .ok (.getfield 38, 3)) (k : tc_V M K (tc_hC σ) (pc + 3) L (.inl (nI (σ.2.2.2 2)) :: st)) : tc_V M K (tc_hC σ) pc L (.inr (some 0) :: st) := tv_get (by rw [hM]; exact fTC_38) hd rfl rfl k
theorem pTC_38 {σ : tcS} {v : Nat} (hM : M.2.2.1 = RTC) (hd : decode M.1 pc = .ok (.putfield 38, 3)) (k : tc_V M K (tc_hC (tc_s4 σ 2 v)) (pc + 3) L st) : tc_V M K (tc_hC σ) pc L (.inl (nI v) :: .inr (some 0) :: st) := tv_put (by rw [hM]; exact fTC_38) ftTC rfl rfl hd rfl (Nat.le_of_ble_eq_true rfl) rfl rfl k
theorem gTC_44 {σ : tcS} (hM : M.2.2.1 = RTC) (hd : decode M.1 pc = .ok (.getfield 44, 3)) (k : tc_V M K (tc_hC σ) (pc + 3) L (.inr (some 8) :: st)) : tc_V M K (tc_hC σ) pc L (.inr (some 0) :: st) := tv_get (by rw [hM]; exact fTC_44) hd rfl rfl k
theorem gTC_48 {σ : tcS} (hM : M.2.2.1 = RTC) (hd : decode M.1 pc = .ok (.getfield 48, 3)) (k : tc_V M K (tc_hC σ) (pc + 3) L (.inr (some 12) :: st)) : tc_V M K (tc_hC σ) pc L (.inr (some 0) :: st) := tv_get (by rw [hM]; exact fTC_48) hd rfl rfl k
theorem gTC_57 {σ : tcS} (hM : M.2.2.1 = RTC) (hd : decode M.1 pc = .ok (.getfield 57, 3)) (k : tc_V M K (tc_hC σ) (pc + 3) L (.inr (some 14) :: st)) : tc_V M K (tc_hC σ) pc L (.inr (some 0) :: st) := tv_get (by rw [hM]; exact fTC_57) hd rfl rfl k
theorem gTC_51 {σ : tcS} (hM : M.2.2.1 = RTC) (hd : decode M.1 pc = .ok (.getfield 51, 3)) (k : tc_V M K (tc_hC σ) (pc + 3) L (.inr (some 13) :: st)) : tc_V M K (tc_hC σ) pc L (.inr (some 0) :: st) := tv_get (by rw [hM]; exact fTC_51) hd rfl rfl k
theorem gTC_67 {σ : tcS} (hM : M.2.2.1 = RTC) (hd : decode M.1 pc = .ok (.getfield 67, 3)) (k : tc_V M K (tc_hC σ) (pc + 3) L (.inr (some 18) :: st)) : tc_V M K (tc_hC σ) pc L (.inr (some 0) :: st) := tv_get (by rw [hM]; exact fTC_67) hd rfl rfl k
theorem gTC_73 {σ : tcS} (hM : M.2.2.1 = RTC) (hd : decode M.1 pc = .ok (.getfield 73, 3)) (k : tc_V M K (tc_hC σ) (pc + 3) L (.inr (some 20) :: st)) : tc_V M K (tc_hC σ) pc L (.inr (some 0) :: st) := tv_get (by rw [hM]; exact fTC_73) hd rfl rfl k
theorem gTC_61 {σ : tcS} (hM : M.2.2.1 = RTC) (hd : decode M.1 pc = .ok (.getfield 61, 3)) (k : tc_V M K (tc_hC σ) (pc + 3) L (.inr (some 16) :: st)) : tc_V M K (tc_hC σ) pc L (.inr (some 0) :: st) := tv_get (by rw [hM]; exact fTC_61) hd rfl rfl k
theorem gTC_64 {σ : tcS} (hM : M.2.2.1 = RTC) (hd : decode M.1 pc = .ok (.getfield 64, 3)) (k : tc_V M K (tc_hC σ) (pc + 3) L (.inr (some 17) :: st)) : tc_V M K (tc_hC σ) pc L (.inr (some 0) :: st) := tv_get (by rw [hM]; exact fTC_64) hd rfl rfl k
theorem gTC_70 {σ : tcS} (hM : M.2.2.1 = RTC) (hd : decode M.1 pc = .ok (.getfield 70, 3)) (k : tc_V M K (tc_hC σ) (pc + 3) L (.inr (some 19) :: st)) : tc_V M K (tc_hC σ) pc L (.inr (some 0) :: st) := tv_get (by rw [hM]; exact fTC_70) hd rfl rfl k
end CW
