section C39
variable {l : Launch} {D : va_G} {ca : Nat → ClassId} {A : Nat → Prop} {G : gG} {N : Nat} {M : gm_M}

theorem flS_0 {fl : Nat → Nat → Nat} {n k b f tm : Nat} (h : stA (fl k 0) (fl k 6) (fl k 7) (fl k 4) b f = none) : flS fl n k b f tm = none := by unfold flS; rw [h]
theorem flS_r {fl : Nat → Nat → Nat} {n k b f tm : Nat} (h : stA (fl k 0) (fl k 6) (fl k 7) (fl k 4) b f = some 0) : flS fl n k b f tm = some (rot (va_up fl k (frow (fl k) 0 tm (fl k 7))) k n, n - 1) := by unfold flS; rw [h]; rfl
theorem flS_u {fl : Nat → Nat → Nat} {n k b f tm st cl : Nat} (h : stA (fl k 0) (fl k 6) (fl k 7) (fl k 4) b f = some st) (h0 : ¬ st = 0) (hc : (if st = 4 ∧ ¬ fl k 4 = 4 then b else fl k 7) = cl) : flS fl n k b f tm = some (va_up fl k (frow (fl k) st tm cl), n) := by
  unfold flS; rw [h]; show (if st = 0 then _ else _) = _; rw [if_neg h0, hc]
def topA (aA aS : Nat → Nat) (a : Nat) : Nat → Nat
  | 0 => 0
  | n + 1 => if aA n = a ∧ topA aA aS a n < aS n then aS n else topA aA aS a n
theorem topA_le {aA aS : Nat → Nat} {a : Nat} : ∀ n, (∀ k, k < n → aS k ≤ 9999) → topA aA aS a n ≤ 9999 := by
  intro n
  induction n with
  | zero => intro _; exact Nat.zero_le _
  | succ n ih =>
    intro h
    rw [topA]
    have := ih (fun k hk => h k (by omega))
    have h2 := h n (by omega)
    split <;> omega
def flv (fl : Nat → Nat → Nat) (k f : Nat) : Nat := [fl k 4, fl k 0, fl k 1 / 256, fl k 1 % 256, fl k 2 / 256, fl k 2 % 256, fl k 3, fl k 5].getD f 0
theorem flw_lift {y y2 : Int32} {nf : Nat} (hn : nf < 2 ^ 30) (h1 : ¬ y < 0) (h2 : ¬ nI nf ≤ y) (h3 : ¬ y2 < 0) (h4 : y2 ≤ nI 7) : ∃ k f : Nat, (k < nf ∧ y = nI k) ∧ f < 8 ∧ y2 = nI f := by
  obtain ⟨k, hk, e⟩ := lift0 hn ⟨h1, Int32.not_le.mp h2⟩
  obtain ⟨f, hf, e2⟩ := in_lift (g := 7) (by decide) ⟨h3, Int32.not_lt.mpr h4⟩
  exact ⟨k, f, ⟨hk, e⟩, by omega, e2⟩
set_option maxHeartbeats 4000000 in
set_option maxRecDepth 100000 in
theorem c_Mo_packet {h le nr tl ne nf na an tm cn cs bd lt nt wh : Nat} {bp fx fy : Int32} {mq : Nat → Nat → Nat} {fl : Nat → Nat → Nat} {k sd f0 : Nat} (eh : M h = some (moO h (nI le) bp (nI nr) (nI wh) (nI tl) (nI ne) (nI nf) (nI na) (nI an) (nI tm) (nI cn) (nI cs) (nI bd) (nI lt) (nI nt) fx fy)) (m14 : M (h + 14) = some (.inl (ca 0, 17, .inl (iN (mq 0))))) (m15 : M (h + 15) = some (.inl (ca 0, 17, .inl (iN (mq 1))))) (m16 : M (h + 16) = some (.inl (ca 0, 17, .inl (iN (mq 2))))) (m17 : M (h + 17) = some (.inl (ca 0, 17, .inl (iN (mq 3))))) (m18 : M (h + 18) = some (.inl (ca 0, 17, .inl (iN (mq 4))))) (m19 : M (h + 19) = some (.inl (ca 0, 17, .inl (iN (mq 5))))) (m20 : M (h + 20) = some (.inl (ca 0, 17, .inl (iN (mq 6))))) (m21 : M (h + 21) = some (.inl (ca 0, 17, .inl (iN (mq 7))))) (m22 : M (h + 22) = some (.inl (ca 0, 17, .inl (iN (mq 8))))) (m23 : M (h + 23) = some (.inl (ca 0, 17, .inl (iN (mq 9))))) (hRF : relF nf fl mq) (hnf : nf ≤ 16) (hF : okF fl) (hk0 : k < nf) (hsd : sd ≤ 1) (hf0 : f0 ≤ 15) (htm : tm < 1000000) (hst : 1 ≤ fl k 4 ∧ (fl k 0 = 0 → fl k 4 ≤ 5)) : gC l D ca A G y_Mo_packet (.code y_Mo_packet b_Mo_packet 5 (some .boolean)) ({ frames := 1, cells := 0, slots := 0, locals := 28 }) N M [.ref h, .int (nI k), .int (nI sd), .int (nI f0)] gm_i (fun (r : Int32) (N1 : Nat) (M1 : gm_M) => N = N1 ∧ (((flS fl nf k (1 - sd) f0 tm = none) ∧ M = M1 ∧ nI 0 = r) ∨ (∃ (fl1 : Nat → Nat → Nat) (n1 : Nat) (mq1 : Nat → Nat → Nat), (flS fl nf k (1 - sd) f0 tm = some (fl1, n1)) ∧ (n1 ≤ nf) ∧ (relF n1 fl1 mq1) ∧ (okF fl1) ∧ M1 h = some (moO h (nI le) bp (nI nr) (nI wh) (nI tl) (nI ne) (nI n1) (nI na) (nI an) (nI tm) (nI cn) (nI cs) (nI bd) (nI lt) (nI nt) fx fy) ∧ M1 (h + 14) = some (.inl (ca 0, 17, .inl (iN (mq1 0)))) ∧ M1 (h + 15) = some (.inl (ca 0, 17, .inl (iN (mq1 1)))) ∧ M1 (h + 16) = some (.inl (ca 0, 17, .inl (iN (mq1 2)))) ∧ M1 (h + 17) = some (.inl (ca 0, 17, .inl (iN (mq1 3)))) ∧ M1 (h + 18) = some (.inl (ca 0, 17, .inl (iN (mq1 4)))) ∧ M1 (h + 19) = some (.inl (ca 0, 17, .inl (iN (mq1 5)))) ∧ M1 (h + 20) = some (.inl (ca 0, 17, .inl (iN (mq1 6)))) ∧ M1 (h + 21) = some (.inl (ca 0, 17, .inl (iN (mq1 7)))) ∧ M1 (h + 22) = some (.inl (ca 0, 17, .inl (iN (mq1 8)))) ∧ M1 (h + 23) = some (.inl (ca 0, 17, .inl (iN (mq1 9)))) ∧ (∀ z, z ≠ h → z ≠ (h + 14) → z ≠ (h + 15) → z ≠ (h + 16) → z ≠ (h + 17) → z ≠ (h + 18) → z ≠ (h + 19) → z ≠ (h + 20) → z ≠ (h + 21) → z ≠ (h + 22) → z ≠ (h + 23) → M1 z = M z) ∧ nI 1 = r))) := by
  refine gm_body (by decide) (Nat.le_of_ble_eq_true rfl) (fun p e s m below meth c ls hx hb hr hts hown hlk hml hnm hP hK hN hX hS hl => ?_)
  have htl : ∀ w ∈ LW, w.before _ s = true := fun w h => hts w (List.mem_cons_of_mem _ h)
  have hown : s.vm.findClass "PacketGateModel" = some m.cls := hown
  have hl : lv_has ls 5 [(0, .ref h), (1, .int (nI k)), (2, .int (nI sd)), (3, .int (nI f0))] := hl
  have hf8 := and_lt f0 8 (by decide)
  have hFk := (hF k).2
  refine lv_aload_n hx hb d_Mo_packet_0 rfl (lv_at hl 0 rfl) ?_
  refine gm_get (C := R_Mo) (T := F_Mo) (n := 44) hx hb htl i_Mo hown hK hP eh rfl 19 (by decide) (htl _ k_762) (fun _ h => h) rfl d_Mo_packet_1 ?_
  refine lv_iload_n hx hb d_Mo_packet_4 rfl (lv_at hl 1 rfl) ?_
  refine gz_iald hx hb hK hP 0 m14 rfl (by omega) (by omega) d_Mo_packet_5 ?_
  rw [show (mq 0) k = fl k 4 from (hRF k (by omega)).1]
  have b_1 := (hF k).2
  refine lv_istore (lv' := [(4, .int (nI (fl k 4))), (0, .ref h), (1, .int (nI k)), (2, .int (nI sd)), (3, .int (nI f0))]) hx hb d_Mo_packet_6 hl (by decide) rfl (fun ls hl => ?_)
  refine lv_aload_n hx hb d_Mo_packet_8 rfl (lv_at hl 1 rfl) ?_
  refine gm_get (C := R_Mo) (T := F_Mo) (n := 44) hx hb htl i_Mo hown hK hP eh rfl 20 (by decide) (htl _ k_763) (fun _ h => h) rfl d_Mo_packet_9 ?_
  refine lv_iload_n hx hb d_Mo_packet_12 rfl (lv_at hl 2 rfl) ?_
  refine gz_iald hx hb hK hP 0 m15 rfl (by omega) (by omega) d_Mo_packet_13 ?_
  rw [show (mq 1) k = fl k 0 from (hRF k (by omega)).2.1]
  have b_2 := (hF k).2
  refine lz_eq (tgt := 38) hx hb d_Mo_packet_14 (by decide) (by omega) (fun c_3 => ?_) (fun c_3 => ?_)
  · skip
    refine lv_iload_n hx hb d_Mo_packet_38 rfl (lv_at hl 4 rfl) ?_
    refine lv_bipush (v := nI 8) hx hb d_Mo_packet_39 (by decide) ?_
    refine lv_iand hx hb d_Mo_packet_41 ?_
    rw [show (nI f0) &&& (nI 8) = nI (f0 &&& 8) from nx_and _ _]
    refine lz_eq (tgt := 52) hx hb d_Mo_packet_42 (by decide) (by omega) (fun c_4 => ?_) (fun c_4 => ?_)
    · skip
      refine lv_aload_n hx hb d_Mo_packet_52 rfl (lv_at hl 1 rfl) ?_
      refine lv_iload_n hx hb d_Mo_packet_53 rfl (lv_at hl 2 rfl) ?_
      refine lv_iload_n hx hb d_Mo_packet_54 rfl (lv_at hl 3 rfl) ?_
      refine lv_iload_n hx hb d_Mo_packet_55 rfl (lv_at hl 4 rfl) ?_
      refine gc_V (q := (R_Mo, F_Mo, 44)) (n := 3) [.int (nI k), .int (nI sd), .int (nI f0)] [] hx hb hml hown hts hK hN hX hP hS (c_Mo_next (fl := fl) eh m14 m15 m16 m17 m18 m19 m20 m21 m22 m23 hRF (by omega) hF (by omega) (by omega) (by omega)) rfl eh k_971 k_973 ks_Mo_next k_10 k_974 (by decide +kernel) ⟨by decide, by decide⟩ rfl hl.1 rfl (Nat.le_of_ble_eq_true rfl) d_Mo_packet_56 ⟨by decide, by decide⟩ (fun r N1 M_5 H locs hw hP hS => ?_)
      obtain ⟨rfl, hw⟩ := hw
      obtain ⟨rfl, rfl⟩ := hw
      refine W.eq (g2 := F0 m 59 ls [.int (nI (nxS (fl k 6) (fl k 7) (fl k 4) sd f0))]) rfl ?_
      have hnx := nx_st (f := f0) (op := fl k 6) (cl := fl k 7) (st := fl k 4) (sd := sd) (and8 f0 (by omega) c_4) (by have := (hF k).2; omega) (by have := (hF k).2; omega) (by have := hst; omega) (by omega)
      have hnx3 := hnx.2.2
      have hnx2 := hnx.2.1
      refine lv_istore (lv' := [(4, .int (nI (nxS (fl k 6) (fl k 7) (fl k 4) sd f0))), (0, .ref h), (1, .int (nI k)), (2, .int (nI sd)), (3, .int (nI f0))]) hx hb d_Mo_packet_59 hl (by decide) rfl (fun ls hl => ?_)
      refine lv_iload hx hb d_Mo_packet_61 (lv_at hl 0 rfl) ?_
      refine lz_ne (tgt := 68) hx hb d_Mo_packet_63 (by decide) (by omega) (fun c_6 => ?_) (fun c_6 => ?_)
      · skip
        refine lv_iload hx hb d_Mo_packet_68 (lv_at hl 0 rfl) ?_
        refine lv_iconst (v := nI 4) hx hb d_Mo_packet_70 (by decide) ?_
        refine ln_ne (tgt := 91) hx hb d_Mo_packet_71 (by decide) (by omega) (by omega) (fun c_7 => ?_) (fun c_7 => ?_)
        · skip
          refine lv_aload_n hx hb d_Mo_packet_91 rfl (lv_at hl 1 rfl) ?_
          refine gm_get (C := R_Mo) (T := F_Mo) (n := 44) hx hb htl i_Mo hown hK hP eh rfl 19 (by decide) (htl _ k_762) (fun _ h => h) rfl d_Mo_packet_92 ?_
          refine lv_iload_n hx hb d_Mo_packet_95 rfl (lv_at hl 2 rfl) ?_
          refine lv_iload hx hb d_Mo_packet_96 (lv_at hl 0 rfl) ?_
          refine gz_iast hx hb hK hP hS 0 m14 rfl (by omega) (by omega) d_Mo_packet_98 (fun H locs hP hS => ?_)
          have hP : gm_P D cls A N (gm_up M (h + 14) (.inl (ca 0, 17, .inl (iN (va_up (mq 0) k (nxS (fl k 6) (fl k 7) (fl k 4) sd f0)))))) H := hP
          have h_8 := gm_pass (k := (h + 14)) (y := .inl (ca 0, 17, .inl (iN (va_up (mq 0) k (nxS (fl k 6) (fl k 7) (fl k 4) sd f0))))) eh (gm_ne eh m14 (fun h => by cases h))
          have h_9 := gm_pass (k := (h + 14)) (y := .inl (ca 0, 17, .inl (iN (va_up (mq 0) k (nxS (fl k 6) (fl k 7) (fl k 4) sd f0))))) m15 (by omega)
          have h_10 := gm_pass (k := (h + 14)) (y := .inl (ca 0, 17, .inl (iN (va_up (mq 0) k (nxS (fl k 6) (fl k 7) (fl k 4) sd f0))))) m16 (by omega)
          have h_11 := gm_pass (k := (h + 14)) (y := .inl (ca 0, 17, .inl (iN (va_up (mq 0) k (nxS (fl k 6) (fl k 7) (fl k 4) sd f0))))) m17 (by omega)
          have h_12 := gm_pass (k := (h + 14)) (y := .inl (ca 0, 17, .inl (iN (va_up (mq 0) k (nxS (fl k 6) (fl k 7) (fl k 4) sd f0))))) m18 (by omega)
          have h_13 := gm_pass (k := (h + 14)) (y := .inl (ca 0, 17, .inl (iN (va_up (mq 0) k (nxS (fl k 6) (fl k 7) (fl k 4) sd f0))))) m19 (by omega)
          have h_14 := gm_pass (k := (h + 14)) (y := .inl (ca 0, 17, .inl (iN (va_up (mq 0) k (nxS (fl k 6) (fl k 7) (fl k 4) sd f0))))) m20 (by omega)
          have h_15 := gm_pass (k := (h + 14)) (y := .inl (ca 0, 17, .inl (iN (va_up (mq 0) k (nxS (fl k 6) (fl k 7) (fl k 4) sd f0))))) m21 (by omega)
          have h_16 := gm_pass (k := (h + 14)) (y := .inl (ca 0, 17, .inl (iN (va_up (mq 0) k (nxS (fl k 6) (fl k 7) (fl k 4) sd f0))))) m22 (by omega)
          have h_17 := gm_pass (k := (h + 14)) (y := .inl (ca 0, 17, .inl (iN (va_up (mq 0) k (nxS (fl k 6) (fl k 7) (fl k 4) sd f0))))) m23 (by omega)
          have h_18 := gm_up_self M (h + 14) (.inl (ca 0, 17, .inl (iN (va_up (mq 0) k (nxS (fl k 6) (fl k 7) (fl k 4) sd f0)))))
          refine lv_aload_n hx hb d_Mo_packet_99 rfl (lv_at hl 1 rfl) ?_
          refine gm_get (C := R_Mo) (T := F_Mo) (n := 44) hx hb htl i_Mo hown hK hP h_8 rfl 26 (by decide) (htl _ k_769) (fun _ h => h) rfl d_Mo_packet_100 ?_
          refine lv_iload_n hx hb d_Mo_packet_103 rfl (lv_at hl 2 rfl) ?_
          refine lv_aload_n hx hb d_Mo_packet_104 rfl (lv_at hl 1 rfl) ?_
          refine gm_get (C := R_Mo) (T := F_Mo) (n := 44) hx hb htl i_Mo hown hK hP h_8 rfl 36 (by decide) (htl _ k_779) (fun _ h => h) rfl d_Mo_packet_105 ?_
          refine gz_iast hx hb hK hP hS 0 h_15 rfl (by omega) (by omega) d_Mo_packet_108 (fun H locs hP hS => ?_)
          have hP : gm_P D cls A N (gm_up (gm_up M (h + 14) (.inl (ca 0, 17, .inl (iN (va_up (mq 0) k (nxS (fl k 6) (fl k 7) (fl k 4) sd f0)))))) (h + 21) (.inl (ca 0, 17, .inl (iN (va_up (mq 7) k tm))))) H := hP
          have h_19 := gm_pass (k := (h + 21)) (y := .inl (ca 0, 17, .inl (iN (va_up (mq 7) k tm)))) h_8 (gm_ne h_8 h_15 (fun h => by cases h))
          have h_20 := gm_pass (k := (h + 21)) (y := .inl (ca 0, 17, .inl (iN (va_up (mq 7) k tm)))) h_9 (by omega)
          have h_21 := gm_pass (k := (h + 21)) (y := .inl (ca 0, 17, .inl (iN (va_up (mq 7) k tm)))) h_10 (by omega)
          have h_22 := gm_pass (k := (h + 21)) (y := .inl (ca 0, 17, .inl (iN (va_up (mq 7) k tm)))) h_11 (by omega)
          have h_23 := gm_pass (k := (h + 21)) (y := .inl (ca 0, 17, .inl (iN (va_up (mq 7) k tm)))) h_12 (by omega)
          have h_24 := gm_pass (k := (h + 21)) (y := .inl (ca 0, 17, .inl (iN (va_up (mq 7) k tm)))) h_13 (by omega)
          have h_25 := gm_pass (k := (h + 21)) (y := .inl (ca 0, 17, .inl (iN (va_up (mq 7) k tm)))) h_14 (by omega)
          have h_26 := gm_pass (k := (h + 21)) (y := .inl (ca 0, 17, .inl (iN (va_up (mq 7) k tm)))) h_16 (by omega)
          have h_27 := gm_pass (k := (h + 21)) (y := .inl (ca 0, 17, .inl (iN (va_up (mq 7) k tm)))) h_17 (by omega)
          have h_28 := gm_pass (k := (h + 21)) (y := .inl (ca 0, 17, .inl (iN (va_up (mq 7) k tm)))) h_18 (by omega)
          have h_29 := gm_up_self (gm_up M (h + 14) (.inl (ca 0, 17, .inl (iN (va_up (mq 0) k (nxS (fl k 6) (fl k 7) (fl k 4) sd f0)))))) (h + 21) (.inl (ca 0, 17, .inl (iN (va_up (mq 7) k tm))))
          refine lv_iconst (v := nI 1) hx hb d_Mo_packet_109 (by decide) ?_
          exact gc_zret hx hb hr hlk hP hS d_Mo_packet_110 rfl ⟨rfl, Or.inr ⟨va_up fl k (frow (fl k) (nxS (fl k 6) (fl k 7) (fl k 4) sd f0) tm (fl k 7)), nf, mkQ (va_up (mq 0) k (nxS (fl k 6) (fl k 7) (fl k 4) sd f0)) (mq 1) (mq 2) (mq 3) (mq 4) (mq 5) (mq 6) (va_up (mq 7) k tm) (mq 8) (mq 9), flS_u (by rw [c_3]; exact hnx.1.trans (if_neg (by omega))) (by omega) (if_neg (by omega)), Nat.le_refl _, relF_up hRF hk0 (va_up_self _ _ _) (fun i q => va_up_ne _ _ q) (fun q => (hRF k hk0).2.2.2.2.2.2.2.2.2 (by omega)) (fun i q => rfl), okF_up hF (by omega) htm (by omega), h_19, h_28, h_20, h_21, h_22, h_23, h_24, h_25, h_29, h_26, h_27, (fun z q0 q1 q2 q3 q4 q5 q6 q7 q8 q9 q10 => (gm_up_ne _ _ q8).trans ((gm_up_ne _ _ q1).trans (rfl))), rfl⟩⟩
        · skip
          refine lv_aload_n hx hb d_Mo_packet_74 rfl (lv_at hl 1 rfl) ?_
          refine gm_get (C := R_Mo) (T := F_Mo) (n := 44) hx hb htl i_Mo hown hK hP eh rfl 19 (by decide) (htl _ k_762) (fun _ h => h) rfl d_Mo_packet_75 ?_
          refine lv_iload_n hx hb d_Mo_packet_78 rfl (lv_at hl 2 rfl) ?_
          refine gz_iald hx hb hK hP 0 m14 rfl (by omega) (by omega) d_Mo_packet_79 ?_
          rw [show (mq 0) k = fl k 4 from (hRF k (by omega)).1]
          have b_30 := (hF k).2
          refine lv_iconst (v := nI 4) hx hb d_Mo_packet_80 (by decide) ?_
          refine ln_ge (tgt := 91) hx hb d_Mo_packet_81 (by decide) (by omega) (by omega) (fun c_31 => ?_) (fun c_31 => ?_)
          · skip
            refine lv_aload_n hx hb d_Mo_packet_91 rfl (lv_at hl 1 rfl) ?_
            refine gm_get (C := R_Mo) (T := F_Mo) (n := 44) hx hb htl i_Mo hown hK hP eh rfl 19 (by decide) (htl _ k_762) (fun _ h => h) rfl d_Mo_packet_92 ?_
            refine lv_iload_n hx hb d_Mo_packet_95 rfl (lv_at hl 2 rfl) ?_
            refine lv_iload hx hb d_Mo_packet_96 (lv_at hl 0 rfl) ?_
            refine gz_iast hx hb hK hP hS 0 m14 rfl (by omega) (by omega) d_Mo_packet_98 (fun H locs hP hS => ?_)
            have hP : gm_P D cls A N (gm_up M (h + 14) (.inl (ca 0, 17, .inl (iN (va_up (mq 0) k (nxS (fl k 6) (fl k 7) (fl k 4) sd f0)))))) H := hP
            have h_32 := gm_pass (k := (h + 14)) (y := .inl (ca 0, 17, .inl (iN (va_up (mq 0) k (nxS (fl k 6) (fl k 7) (fl k 4) sd f0))))) eh (gm_ne eh m14 (fun h => by cases h))
            have h_33 := gm_pass (k := (h + 14)) (y := .inl (ca 0, 17, .inl (iN (va_up (mq 0) k (nxS (fl k 6) (fl k 7) (fl k 4) sd f0))))) m15 (by omega)
            have h_34 := gm_pass (k := (h + 14)) (y := .inl (ca 0, 17, .inl (iN (va_up (mq 0) k (nxS (fl k 6) (fl k 7) (fl k 4) sd f0))))) m16 (by omega)
            have h_35 := gm_pass (k := (h + 14)) (y := .inl (ca 0, 17, .inl (iN (va_up (mq 0) k (nxS (fl k 6) (fl k 7) (fl k 4) sd f0))))) m17 (by omega)
            have h_36 := gm_pass (k := (h + 14)) (y := .inl (ca 0, 17, .inl (iN (va_up (mq 0) k (nxS (fl k 6) (fl k 7) (fl k 4) sd f0))))) m18 (by omega)
            have h_37 := gm_pass (k := (h + 14)) (y := .inl (ca 0, 17, .inl (iN (va_up (mq 0) k (nxS (fl k 6) (fl k 7) (fl k 4) sd f0))))) m19 (by omega)
            have h_38 := gm_pass (k := (h + 14)) (y := .inl (ca 0, 17, .inl (iN (va_up (mq 0) k (nxS (fl k 6) (fl k 7) (fl k 4) sd f0))))) m20 (by omega)
            have h_39 := gm_pass (k := (h + 14)) (y := .inl (ca 0, 17, .inl (iN (va_up (mq 0) k (nxS (fl k 6) (fl k 7) (fl k 4) sd f0))))) m21 (by omega)
            have h_40 := gm_pass (k := (h + 14)) (y := .inl (ca 0, 17, .inl (iN (va_up (mq 0) k (nxS (fl k 6) (fl k 7) (fl k 4) sd f0))))) m22 (by omega)
            have h_41 := gm_pass (k := (h + 14)) (y := .inl (ca 0, 17, .inl (iN (va_up (mq 0) k (nxS (fl k 6) (fl k 7) (fl k 4) sd f0))))) m23 (by omega)
            have h_42 := gm_up_self M (h + 14) (.inl (ca 0, 17, .inl (iN (va_up (mq 0) k (nxS (fl k 6) (fl k 7) (fl k 4) sd f0)))))
            refine lv_aload_n hx hb d_Mo_packet_99 rfl (lv_at hl 1 rfl) ?_
            refine gm_get (C := R_Mo) (T := F_Mo) (n := 44) hx hb htl i_Mo hown hK hP h_32 rfl 26 (by decide) (htl _ k_769) (fun _ h => h) rfl d_Mo_packet_100 ?_
            refine lv_iload_n hx hb d_Mo_packet_103 rfl (lv_at hl 2 rfl) ?_
            refine lv_aload_n hx hb d_Mo_packet_104 rfl (lv_at hl 1 rfl) ?_
            refine gm_get (C := R_Mo) (T := F_Mo) (n := 44) hx hb htl i_Mo hown hK hP h_32 rfl 36 (by decide) (htl _ k_779) (fun _ h => h) rfl d_Mo_packet_105 ?_
            refine gz_iast hx hb hK hP hS 0 h_39 rfl (by omega) (by omega) d_Mo_packet_108 (fun H locs hP hS => ?_)
            have hP : gm_P D cls A N (gm_up (gm_up M (h + 14) (.inl (ca 0, 17, .inl (iN (va_up (mq 0) k (nxS (fl k 6) (fl k 7) (fl k 4) sd f0)))))) (h + 21) (.inl (ca 0, 17, .inl (iN (va_up (mq 7) k tm))))) H := hP
            have h_43 := gm_pass (k := (h + 21)) (y := .inl (ca 0, 17, .inl (iN (va_up (mq 7) k tm)))) h_32 (gm_ne h_32 h_39 (fun h => by cases h))
            have h_44 := gm_pass (k := (h + 21)) (y := .inl (ca 0, 17, .inl (iN (va_up (mq 7) k tm)))) h_33 (by omega)
            have h_45 := gm_pass (k := (h + 21)) (y := .inl (ca 0, 17, .inl (iN (va_up (mq 7) k tm)))) h_34 (by omega)
            have h_46 := gm_pass (k := (h + 21)) (y := .inl (ca 0, 17, .inl (iN (va_up (mq 7) k tm)))) h_35 (by omega)
            have h_47 := gm_pass (k := (h + 21)) (y := .inl (ca 0, 17, .inl (iN (va_up (mq 7) k tm)))) h_36 (by omega)
            have h_48 := gm_pass (k := (h + 21)) (y := .inl (ca 0, 17, .inl (iN (va_up (mq 7) k tm)))) h_37 (by omega)
            have h_49 := gm_pass (k := (h + 21)) (y := .inl (ca 0, 17, .inl (iN (va_up (mq 7) k tm)))) h_38 (by omega)
            have h_50 := gm_pass (k := (h + 21)) (y := .inl (ca 0, 17, .inl (iN (va_up (mq 7) k tm)))) h_40 (by omega)
            have h_51 := gm_pass (k := (h + 21)) (y := .inl (ca 0, 17, .inl (iN (va_up (mq 7) k tm)))) h_41 (by omega)
            have h_52 := gm_pass (k := (h + 21)) (y := .inl (ca 0, 17, .inl (iN (va_up (mq 7) k tm)))) h_42 (by omega)
            have h_53 := gm_up_self (gm_up M (h + 14) (.inl (ca 0, 17, .inl (iN (va_up (mq 0) k (nxS (fl k 6) (fl k 7) (fl k 4) sd f0)))))) (h + 21) (.inl (ca 0, 17, .inl (iN (va_up (mq 7) k tm))))
            refine lv_iconst (v := nI 1) hx hb d_Mo_packet_109 (by decide) ?_
            exact gc_zret hx hb hr hlk hP hS d_Mo_packet_110 rfl ⟨rfl, Or.inr ⟨va_up fl k (frow (fl k) (nxS (fl k 6) (fl k 7) (fl k 4) sd f0) tm (fl k 7)), nf, mkQ (va_up (mq 0) k (nxS (fl k 6) (fl k 7) (fl k 4) sd f0)) (mq 1) (mq 2) (mq 3) (mq 4) (mq 5) (mq 6) (va_up (mq 7) k tm) (mq 8) (mq 9), flS_u (by rw [c_3]; exact hnx.1.trans (if_neg (by omega))) (by omega) (if_neg (by omega)), Nat.le_refl _, relF_up hRF hk0 (va_up_self _ _ _) (fun i q => va_up_ne _ _ q) (fun q => (hRF k hk0).2.2.2.2.2.2.2.2.2 (by omega)) (fun i q => rfl), okF_up hF (by omega) htm (by omega), h_43, h_52, h_44, h_45, h_46, h_47, h_48, h_49, h_53, h_50, h_51, (fun z q0 q1 q2 q3 q4 q5 q6 q7 q8 q9 q10 => (gm_up_ne _ _ q8).trans ((gm_up_ne _ _ q1).trans (rfl))), rfl⟩⟩
          · skip
            refine lv_aload_n hx hb d_Mo_packet_84 rfl (lv_at hl 1 rfl) ?_
            refine gm_get (C := R_Mo) (T := F_Mo) (n := 44) hx hb htl i_Mo hown hK hP eh rfl 28 (by decide) (htl _ k_771) (fun _ h => h) rfl d_Mo_packet_85 ?_
            refine lv_iload_n hx hb d_Mo_packet_88 rfl (lv_at hl 2 rfl) ?_
            refine lv_iload_n hx hb d_Mo_packet_89 rfl (lv_at hl 3 rfl) ?_
            refine gz_iast hx hb hK hP hS 0 m23 rfl (by omega) (by omega) d_Mo_packet_90 (fun H locs hP hS => ?_)
            have hP : gm_P D cls A N (gm_up M (h + 23) (.inl (ca 0, 17, .inl (iN (va_up (mq 9) k sd))))) H := hP
            have h_54 := gm_pass (k := (h + 23)) (y := .inl (ca 0, 17, .inl (iN (va_up (mq 9) k sd)))) eh (gm_ne eh m23 (fun h => by cases h))
            have h_55 := gm_pass (k := (h + 23)) (y := .inl (ca 0, 17, .inl (iN (va_up (mq 9) k sd)))) m14 (by omega)
            have h_56 := gm_pass (k := (h + 23)) (y := .inl (ca 0, 17, .inl (iN (va_up (mq 9) k sd)))) m15 (by omega)
            have h_57 := gm_pass (k := (h + 23)) (y := .inl (ca 0, 17, .inl (iN (va_up (mq 9) k sd)))) m16 (by omega)
            have h_58 := gm_pass (k := (h + 23)) (y := .inl (ca 0, 17, .inl (iN (va_up (mq 9) k sd)))) m17 (by omega)
            have h_59 := gm_pass (k := (h + 23)) (y := .inl (ca 0, 17, .inl (iN (va_up (mq 9) k sd)))) m18 (by omega)
            have h_60 := gm_pass (k := (h + 23)) (y := .inl (ca 0, 17, .inl (iN (va_up (mq 9) k sd)))) m19 (by omega)
            have h_61 := gm_pass (k := (h + 23)) (y := .inl (ca 0, 17, .inl (iN (va_up (mq 9) k sd)))) m20 (by omega)
            have h_62 := gm_pass (k := (h + 23)) (y := .inl (ca 0, 17, .inl (iN (va_up (mq 9) k sd)))) m21 (by omega)
            have h_63 := gm_pass (k := (h + 23)) (y := .inl (ca 0, 17, .inl (iN (va_up (mq 9) k sd)))) m22 (by omega)
            have h_64 := gm_up_self M (h + 23) (.inl (ca 0, 17, .inl (iN (va_up (mq 9) k sd))))
            refine lv_aload_n hx hb d_Mo_packet_91 rfl (lv_at hl 1 rfl) ?_
            refine gm_get (C := R_Mo) (T := F_Mo) (n := 44) hx hb htl i_Mo hown hK hP h_54 rfl 19 (by decide) (htl _ k_762) (fun _ h => h) rfl d_Mo_packet_92 ?_
            refine lv_iload_n hx hb d_Mo_packet_95 rfl (lv_at hl 2 rfl) ?_
            refine lv_iload hx hb d_Mo_packet_96 (lv_at hl 0 rfl) ?_
            refine gz_iast hx hb hK hP hS 0 h_55 rfl (by omega) (by omega) d_Mo_packet_98 (fun H locs hP hS => ?_)
            have hP : gm_P D cls A N (gm_up (gm_up M (h + 23) (.inl (ca 0, 17, .inl (iN (va_up (mq 9) k sd))))) (h + 14) (.inl (ca 0, 17, .inl (iN (va_up (mq 0) k (nxS (fl k 6) (fl k 7) (fl k 4) sd f0)))))) H := hP
            have h_65 := gm_pass (k := (h + 14)) (y := .inl (ca 0, 17, .inl (iN (va_up (mq 0) k (nxS (fl k 6) (fl k 7) (fl k 4) sd f0))))) h_54 (gm_ne h_54 h_55 (fun h => by cases h))
            have h_66 := gm_pass (k := (h + 14)) (y := .inl (ca 0, 17, .inl (iN (va_up (mq 0) k (nxS (fl k 6) (fl k 7) (fl k 4) sd f0))))) h_56 (by omega)
            have h_67 := gm_pass (k := (h + 14)) (y := .inl (ca 0, 17, .inl (iN (va_up (mq 0) k (nxS (fl k 6) (fl k 7) (fl k 4) sd f0))))) h_57 (by omega)
            have h_68 := gm_pass (k := (h + 14)) (y := .inl (ca 0, 17, .inl (iN (va_up (mq 0) k (nxS (fl k 6) (fl k 7) (fl k 4) sd f0))))) h_58 (by omega)
            have h_69 := gm_pass (k := (h + 14)) (y := .inl (ca 0, 17, .inl (iN (va_up (mq 0) k (nxS (fl k 6) (fl k 7) (fl k 4) sd f0))))) h_59 (by omega)
            have h_70 := gm_pass (k := (h + 14)) (y := .inl (ca 0, 17, .inl (iN (va_up (mq 0) k (nxS (fl k 6) (fl k 7) (fl k 4) sd f0))))) h_60 (by omega)
            have h_71 := gm_pass (k := (h + 14)) (y := .inl (ca 0, 17, .inl (iN (va_up (mq 0) k (nxS (fl k 6) (fl k 7) (fl k 4) sd f0))))) h_61 (by omega)
            have h_72 := gm_pass (k := (h + 14)) (y := .inl (ca 0, 17, .inl (iN (va_up (mq 0) k (nxS (fl k 6) (fl k 7) (fl k 4) sd f0))))) h_62 (by omega)
            have h_73 := gm_pass (k := (h + 14)) (y := .inl (ca 0, 17, .inl (iN (va_up (mq 0) k (nxS (fl k 6) (fl k 7) (fl k 4) sd f0))))) h_63 (by omega)
            have h_74 := gm_pass (k := (h + 14)) (y := .inl (ca 0, 17, .inl (iN (va_up (mq 0) k (nxS (fl k 6) (fl k 7) (fl k 4) sd f0))))) h_64 (by omega)
            have h_75 := gm_up_self (gm_up M (h + 23) (.inl (ca 0, 17, .inl (iN (va_up (mq 9) k sd))))) (h + 14) (.inl (ca 0, 17, .inl (iN (va_up (mq 0) k (nxS (fl k 6) (fl k 7) (fl k 4) sd f0)))))
            refine lv_aload_n hx hb d_Mo_packet_99 rfl (lv_at hl 1 rfl) ?_
            refine gm_get (C := R_Mo) (T := F_Mo) (n := 44) hx hb htl i_Mo hown hK hP h_65 rfl 26 (by decide) (htl _ k_769) (fun _ h => h) rfl d_Mo_packet_100 ?_
            refine lv_iload_n hx hb d_Mo_packet_103 rfl (lv_at hl 2 rfl) ?_
            refine lv_aload_n hx hb d_Mo_packet_104 rfl (lv_at hl 1 rfl) ?_
            refine gm_get (C := R_Mo) (T := F_Mo) (n := 44) hx hb htl i_Mo hown hK hP h_65 rfl 36 (by decide) (htl _ k_779) (fun _ h => h) rfl d_Mo_packet_105 ?_
            refine gz_iast hx hb hK hP hS 0 h_72 rfl (by omega) (by omega) d_Mo_packet_108 (fun H locs hP hS => ?_)
            have hP : gm_P D cls A N (gm_up (gm_up (gm_up M (h + 23) (.inl (ca 0, 17, .inl (iN (va_up (mq 9) k sd))))) (h + 14) (.inl (ca 0, 17, .inl (iN (va_up (mq 0) k (nxS (fl k 6) (fl k 7) (fl k 4) sd f0)))))) (h + 21) (.inl (ca 0, 17, .inl (iN (va_up (mq 7) k tm))))) H := hP
            have h_76 := gm_pass (k := (h + 21)) (y := .inl (ca 0, 17, .inl (iN (va_up (mq 7) k tm)))) h_65 (gm_ne h_65 h_72 (fun h => by cases h))
            have h_77 := gm_pass (k := (h + 21)) (y := .inl (ca 0, 17, .inl (iN (va_up (mq 7) k tm)))) h_66 (by omega)
            have h_78 := gm_pass (k := (h + 21)) (y := .inl (ca 0, 17, .inl (iN (va_up (mq 7) k tm)))) h_67 (by omega)
            have h_79 := gm_pass (k := (h + 21)) (y := .inl (ca 0, 17, .inl (iN (va_up (mq 7) k tm)))) h_68 (by omega)
            have h_80 := gm_pass (k := (h + 21)) (y := .inl (ca 0, 17, .inl (iN (va_up (mq 7) k tm)))) h_69 (by omega)
            have h_81 := gm_pass (k := (h + 21)) (y := .inl (ca 0, 17, .inl (iN (va_up (mq 7) k tm)))) h_70 (by omega)
            have h_82 := gm_pass (k := (h + 21)) (y := .inl (ca 0, 17, .inl (iN (va_up (mq 7) k tm)))) h_71 (by omega)
            have h_83 := gm_pass (k := (h + 21)) (y := .inl (ca 0, 17, .inl (iN (va_up (mq 7) k tm)))) h_73 (by omega)
            have h_84 := gm_pass (k := (h + 21)) (y := .inl (ca 0, 17, .inl (iN (va_up (mq 7) k tm)))) h_74 (by omega)
            have h_85 := gm_pass (k := (h + 21)) (y := .inl (ca 0, 17, .inl (iN (va_up (mq 7) k tm)))) h_75 (by omega)
            have h_86 := gm_up_self (gm_up (gm_up M (h + 23) (.inl (ca 0, 17, .inl (iN (va_up (mq 9) k sd))))) (h + 14) (.inl (ca 0, 17, .inl (iN (va_up (mq 0) k (nxS (fl k 6) (fl k 7) (fl k 4) sd f0)))))) (h + 21) (.inl (ca 0, 17, .inl (iN (va_up (mq 7) k tm))))
            refine lv_iconst (v := nI 1) hx hb d_Mo_packet_109 (by decide) ?_
            exact gc_zret hx hb hr hlk hP hS d_Mo_packet_110 rfl ⟨rfl, Or.inr ⟨va_up fl k (frow (fl k) (nxS (fl k 6) (fl k 7) (fl k 4) sd f0) tm (1 - sd)), nf, mkQ (va_up (mq 0) k (nxS (fl k 6) (fl k 7) (fl k 4) sd f0)) (mq 1) (mq 2) (mq 3) (mq 4) (mq 5) (mq 6) (va_up (mq 7) k tm) (mq 8) (va_up (mq 9) k sd), flS_u (by rw [c_3]; exact hnx.1.trans (if_neg (by omega))) (by omega) (if_pos (by omega)), Nat.le_refl _, relF_up hRF hk0 (va_up_self _ _ _) (fun i q => va_up_ne _ _ q) (fun _ => (va_up_self _ _ _).trans (by omega)) (fun i q => va_up_ne _ _ q), okF_up hF (by omega) htm (by omega), h_76, h_85, h_77, h_78, h_79, h_80, h_81, h_82, h_86, h_83, h_84, (fun z q0 q1 q2 q3 q4 q5 q6 q7 q8 q9 q10 => (gm_up_ne _ _ q8).trans ((gm_up_ne _ _ q1).trans ((gm_up_ne _ _ q10).trans (rfl)))), rfl⟩⟩
      · skip
        refine lv_iconst (v := nI 0) hx hb d_Mo_packet_66 (by decide) ?_
        exact gc_zret hx hb hr hlk hP hS d_Mo_packet_67 rfl ⟨rfl, Or.inl ⟨flS_0 (by rw [c_3]; exact hnx.1.trans (if_pos (by assumption))), rfl, rfl⟩⟩
    · skip
      refine lv_aload_n hx hb d_Mo_packet_45 rfl (lv_at hl 1 rfl) ?_
      refine lv_iload_n hx hb d_Mo_packet_46 rfl (lv_at hl 2 rfl) ?_
      refine gc_V (q := (R_Mo, F_Mo, 44)) (n := 1) [.int (nI k)] [] hx hb hml hown hts hK hN hX hP hS (c_Mo_endFlow eh m14 m15 m16 m17 m18 m19 m20 m21 m22 m23 (by omega) (by omega)) rfl eh k_944 k_946 ks_Mo_endFlow k_10 k_947 (by decide +kernel) ⟨by decide, by decide⟩ rfl hl.1 rfl (Nat.le_of_ble_eq_true rfl) d_Mo_packet_47 ⟨by decide, by decide⟩ (fun r N1 M_87 H locs hw hP hS => ?_)
      obtain ⟨rfl, hw⟩ := hw
      obtain ⟨h_88, h_89, h_90, h_91, h_92, h_93, h_94, h_95, h_96, h_97, h_98, hfr_99⟩ := hw
      refine W.eq (g2 := F0 m 50 ls []) rfl ?_
      refine lv_iconst (v := nI 1) hx hb d_Mo_packet_50 (by decide) ?_
      exact gc_zret hx hb hr hlk hP hS d_Mo_packet_51 rfl ⟨rfl, Or.inr ⟨_, _, _, flS_r (by unfold stA; rw [if_neg (by omega), if_pos c_4]), by omega, relF_sh _ hRF hk0, okF_rot (okF_up hF (by decide) htm (by omega)), h_88, h_89, h_90, h_91, h_92, h_93, h_94, h_95, h_96, h_97, h_98, (fun z q0 q1 q2 q3 q4 q5 q6 q7 q8 q9 q10 => (hfr_99 z q0 q1 q2 q3 q4 q5 q6 q7 q8 q9 q10).trans (rfl)), rfl⟩⟩
  · skip
    refine lv_iload_n hx hb d_Mo_packet_17 rfl (lv_at hl 3 rfl) ?_
    refine lv_aload_n hx hb d_Mo_packet_18 rfl (lv_at hl 1 rfl) ?_
    refine gm_get (C := R_Mo) (T := F_Mo) (n := 44) hx hb htl i_Mo hown hK hP eh rfl 27 (by decide) (htl _ k_770) (fun _ h => h) rfl d_Mo_packet_19 ?_
    refine lv_iload_n hx hb d_Mo_packet_22 rfl (lv_at hl 2 rfl) ?_
    refine gz_iald hx hb hK hP 0 m22 rfl (by omega) (by omega) d_Mo_packet_23 ?_
    rw [show (mq 8) k = 1 - fl k 6 from (hRF k (by omega)).2.2.2.2.2.2.2.2.1]
    have b_100 := (hF k).2
    refine ln_eq (tgt := 99) hx hb d_Mo_packet_24 (by decide) (by omega) (by omega) (fun c_101 => ?_) (fun c_101 => ?_)
    · skip
      refine lv_aload_n hx hb d_Mo_packet_99 rfl (lv_at hl 1 rfl) ?_
      refine gm_get (C := R_Mo) (T := F_Mo) (n := 44) hx hb htl i_Mo hown hK hP eh rfl 26 (by decide) (htl _ k_769) (fun _ h => h) rfl d_Mo_packet_100 ?_
      refine lv_iload_n hx hb d_Mo_packet_103 rfl (lv_at hl 2 rfl) ?_
      refine lv_aload_n hx hb d_Mo_packet_104 rfl (lv_at hl 1 rfl) ?_
      refine gm_get (C := R_Mo) (T := F_Mo) (n := 44) hx hb htl i_Mo hown hK hP eh rfl 36 (by decide) (htl _ k_779) (fun _ h => h) rfl d_Mo_packet_105 ?_
      refine gz_iast hx hb hK hP hS 0 m21 rfl (by omega) (by omega) d_Mo_packet_108 (fun H locs hP hS => ?_)
      have hP : gm_P D cls A N (gm_up M (h + 21) (.inl (ca 0, 17, .inl (iN (va_up (mq 7) k tm))))) H := hP
      have h_102 := gm_pass (k := (h + 21)) (y := .inl (ca 0, 17, .inl (iN (va_up (mq 7) k tm)))) eh (gm_ne eh m21 (fun h => by cases h))
      have h_103 := gm_pass (k := (h + 21)) (y := .inl (ca 0, 17, .inl (iN (va_up (mq 7) k tm)))) m14 (by omega)
      have h_104 := gm_pass (k := (h + 21)) (y := .inl (ca 0, 17, .inl (iN (va_up (mq 7) k tm)))) m15 (by omega)
      have h_105 := gm_pass (k := (h + 21)) (y := .inl (ca 0, 17, .inl (iN (va_up (mq 7) k tm)))) m16 (by omega)
      have h_106 := gm_pass (k := (h + 21)) (y := .inl (ca 0, 17, .inl (iN (va_up (mq 7) k tm)))) m17 (by omega)
      have h_107 := gm_pass (k := (h + 21)) (y := .inl (ca 0, 17, .inl (iN (va_up (mq 7) k tm)))) m18 (by omega)
      have h_108 := gm_pass (k := (h + 21)) (y := .inl (ca 0, 17, .inl (iN (va_up (mq 7) k tm)))) m19 (by omega)
      have h_109 := gm_pass (k := (h + 21)) (y := .inl (ca 0, 17, .inl (iN (va_up (mq 7) k tm)))) m20 (by omega)
      have h_110 := gm_pass (k := (h + 21)) (y := .inl (ca 0, 17, .inl (iN (va_up (mq 7) k tm)))) m22 (by omega)
      have h_111 := gm_pass (k := (h + 21)) (y := .inl (ca 0, 17, .inl (iN (va_up (mq 7) k tm)))) m23 (by omega)
      have h_112 := gm_up_self M (h + 21) (.inl (ca 0, 17, .inl (iN (va_up (mq 7) k tm))))
      refine lv_iconst (v := nI 1) hx hb d_Mo_packet_109 (by decide) ?_
      exact gc_zret hx hb hr hlk hP hS d_Mo_packet_110 rfl ⟨rfl, Or.inr ⟨va_up fl k (frow (fl k) (fl k 4) tm (fl k 7)), nf, mkQ (mq 0) (mq 1) (mq 2) (mq 3) (mq 4) (mq 5) (mq 6) (va_up (mq 7) k tm) (mq 8) (mq 9), flS_u (by unfold stA; rw [if_pos (by omega), if_pos (by omega)]) (by omega) (if_neg (by omega)), Nat.le_refl _, relF_up hRF hk0 (hRF k hk0).1 (fun i q => rfl) (fun q => (hRF k hk0).2.2.2.2.2.2.2.2.2 (by omega)) (fun i q => rfl), okF_up hF (by omega) htm (by omega), h_102, h_103, h_104, h_105, h_106, h_107, h_108, h_109, h_112, h_110, h_111, (fun z q0 q1 q2 q3 q4 q5 q6 q7 q8 q9 q10 => (gm_up_ne _ _ q8).trans (rfl)), rfl⟩⟩
    · skip
      refine lv_aload_n hx hb d_Mo_packet_27 rfl (lv_at hl 1 rfl) ?_
      refine gm_get (C := R_Mo) (T := F_Mo) (n := 44) hx hb htl i_Mo hown hK hP eh rfl 19 (by decide) (htl _ k_762) (fun _ h => h) rfl d_Mo_packet_28 ?_
      refine lv_iload_n hx hb d_Mo_packet_31 rfl (lv_at hl 2 rfl) ?_
      refine lv_bipush (v := nI 7) hx hb d_Mo_packet_32 (by decide) ?_
      refine gz_iast hx hb hK hP hS 0 m14 rfl (by omega) (by omega) d_Mo_packet_34 (fun H locs hP hS => ?_)
      have hP : gm_P D cls A N (gm_up M (h + 14) (.inl (ca 0, 17, .inl (iN (va_up (mq 0) k 7))))) H := hP
      have h_113 := gm_pass (k := (h + 14)) (y := .inl (ca 0, 17, .inl (iN (va_up (mq 0) k 7)))) eh (gm_ne eh m14 (fun h => by cases h))
      have h_114 := gm_pass (k := (h + 14)) (y := .inl (ca 0, 17, .inl (iN (va_up (mq 0) k 7)))) m15 (by omega)
      have h_115 := gm_pass (k := (h + 14)) (y := .inl (ca 0, 17, .inl (iN (va_up (mq 0) k 7)))) m16 (by omega)
      have h_116 := gm_pass (k := (h + 14)) (y := .inl (ca 0, 17, .inl (iN (va_up (mq 0) k 7)))) m17 (by omega)
      have h_117 := gm_pass (k := (h + 14)) (y := .inl (ca 0, 17, .inl (iN (va_up (mq 0) k 7)))) m18 (by omega)
      have h_118 := gm_pass (k := (h + 14)) (y := .inl (ca 0, 17, .inl (iN (va_up (mq 0) k 7)))) m19 (by omega)
      have h_119 := gm_pass (k := (h + 14)) (y := .inl (ca 0, 17, .inl (iN (va_up (mq 0) k 7)))) m20 (by omega)
      have h_120 := gm_pass (k := (h + 14)) (y := .inl (ca 0, 17, .inl (iN (va_up (mq 0) k 7)))) m21 (by omega)
      have h_121 := gm_pass (k := (h + 14)) (y := .inl (ca 0, 17, .inl (iN (va_up (mq 0) k 7)))) m22 (by omega)
      have h_122 := gm_pass (k := (h + 14)) (y := .inl (ca 0, 17, .inl (iN (va_up (mq 0) k 7)))) m23 (by omega)
      have h_123 := gm_up_self M (h + 14) (.inl (ca 0, 17, .inl (iN (va_up (mq 0) k 7))))
      refine lv_goto (tgt := 99) hx hb d_Mo_packet_35 (by decide) ?_
      refine lv_aload_n hx hb d_Mo_packet_99 rfl (lv_at hl 1 rfl) ?_
      refine gm_get (C := R_Mo) (T := F_Mo) (n := 44) hx hb htl i_Mo hown hK hP h_113 rfl 26 (by decide) (htl _ k_769) (fun _ h => h) rfl d_Mo_packet_100 ?_
      refine lv_iload_n hx hb d_Mo_packet_103 rfl (lv_at hl 2 rfl) ?_
      refine lv_aload_n hx hb d_Mo_packet_104 rfl (lv_at hl 1 rfl) ?_
      refine gm_get (C := R_Mo) (T := F_Mo) (n := 44) hx hb htl i_Mo hown hK hP h_113 rfl 36 (by decide) (htl _ k_779) (fun _ h => h) rfl d_Mo_packet_105 ?_
      refine gz_iast hx hb hK hP hS 0 h_120 rfl (by omega) (by omega) d_Mo_packet_108 (fun H locs hP hS => ?_)
      have hP : gm_P D cls A N (gm_up (gm_up M (h + 14) (.inl (ca 0, 17, .inl (iN (va_up (mq 0) k 7))))) (h + 21) (.inl (ca 0, 17, .inl (iN (va_up (mq 7) k tm))))) H := hP
      have h_124 := gm_pass (k := (h + 21)) (y := .inl (ca 0, 17, .inl (iN (va_up (mq 7) k tm)))) h_113 (gm_ne h_113 h_120 (fun h => by cases h))
      have h_125 := gm_pass (k := (h + 21)) (y := .inl (ca 0, 17, .inl (iN (va_up (mq 7) k tm)))) h_114 (by omega)
      have h_126 := gm_pass (k := (h + 21)) (y := .inl (ca 0, 17, .inl (iN (va_up (mq 7) k tm)))) h_115 (by omega)
      have h_127 := gm_pass (k := (h + 21)) (y := .inl (ca 0, 17, .inl (iN (va_up (mq 7) k tm)))) h_116 (by omega)
      have h_128 := gm_pass (k := (h + 21)) (y := .inl (ca 0, 17, .inl (iN (va_up (mq 7) k tm)))) h_117 (by omega)
      have h_129 := gm_pass (k := (h + 21)) (y := .inl (ca 0, 17, .inl (iN (va_up (mq 7) k tm)))) h_118 (by omega)
      have h_130 := gm_pass (k := (h + 21)) (y := .inl (ca 0, 17, .inl (iN (va_up (mq 7) k tm)))) h_119 (by omega)
      have h_131 := gm_pass (k := (h + 21)) (y := .inl (ca 0, 17, .inl (iN (va_up (mq 7) k tm)))) h_121 (by omega)
      have h_132 := gm_pass (k := (h + 21)) (y := .inl (ca 0, 17, .inl (iN (va_up (mq 7) k tm)))) h_122 (by omega)
      have h_133 := gm_pass (k := (h + 21)) (y := .inl (ca 0, 17, .inl (iN (va_up (mq 7) k tm)))) h_123 (by omega)
      have h_134 := gm_up_self (gm_up M (h + 14) (.inl (ca 0, 17, .inl (iN (va_up (mq 0) k 7))))) (h + 21) (.inl (ca 0, 17, .inl (iN (va_up (mq 7) k tm))))
      refine lv_iconst (v := nI 1) hx hb d_Mo_packet_109 (by decide) ?_
      exact gc_zret hx hb hr hlk hP hS d_Mo_packet_110 rfl ⟨rfl, Or.inr ⟨va_up fl k (frow (fl k) 7 tm (fl k 7)), nf, mkQ (va_up (mq 0) k 7) (mq 1) (mq 2) (mq 3) (mq 4) (mq 5) (mq 6) (va_up (mq 7) k tm) (mq 8) (mq 9), flS_u (by unfold stA; rw [if_pos (by omega), if_neg (by omega)]) (by decide) (if_neg (by omega)), Nat.le_refl _, relF_up hRF hk0 (va_up_self _ _ _) (fun i q => va_up_ne _ _ q) (fun q => (hRF k hk0).2.2.2.2.2.2.2.2.2 (by omega)) (fun i q => rfl), okF_up hF (by decide) htm (by omega), h_124, h_133, h_125, h_126, h_127, h_128, h_129, h_130, h_134, h_131, h_132, (fun z q0 q1 q2 q3 q4 q5 q6 q7 q8 q9 q10 => (gm_up_ne _ _ q8).trans ((gm_up_ne _ _ q1).trans (rfl))), rfl⟩⟩
set_option maxHeartbeats 4000000 in
set_option maxRecDepth 100000 in
theorem c_Mo_openFlow {h le nr tl ne nf na an tm cn cs bd lt nt wh : Nat} {bp fx fy : Int32} {mq : Nat → Nat → Nat} {fl : Nat → Nat → Nat} {pr0 sd i0 o0 a0 b0 c0 d0 pub : Nat} (eh : M h = some (moO h (nI le) bp (nI nr) (nI wh) (nI tl) (nI ne) (nI nf) (nI na) (nI an) (nI tm) (nI cn) (nI cs) (nI bd) (nI lt) (nI nt) fx fy)) (m14 : M (h + 14) = some (.inl (ca 0, 17, .inl (iN (mq 0))))) (m15 : M (h + 15) = some (.inl (ca 0, 17, .inl (iN (mq 1))))) (m16 : M (h + 16) = some (.inl (ca 0, 17, .inl (iN (mq 2))))) (m17 : M (h + 17) = some (.inl (ca 0, 17, .inl (iN (mq 3))))) (m18 : M (h + 18) = some (.inl (ca 0, 17, .inl (iN (mq 4))))) (m19 : M (h + 19) = some (.inl (ca 0, 17, .inl (iN (mq 5))))) (m20 : M (h + 20) = some (.inl (ca 0, 17, .inl (iN (mq 6))))) (m21 : M (h + 21) = some (.inl (ca 0, 17, .inl (iN (mq 7))))) (m22 : M (h + 22) = some (.inl (ca 0, 17, .inl (iN (mq 8))))) (m23 : M (h + 23) = some (.inl (ca 0, 17, .inl (iN (mq 9))))) (hRF : relF nf fl mq) (hnf : nf ≤ 16) (hF : okF fl) (hroom : nf < 16) (hpr0 : pr0 < 65536) (hsd : sd ≤ 1) (hab : i0 / 256 = a0 ∧ i0 % 256 = b0 ∧ o0 / 256 = c0 ∧ o0 % 256 = d0) : gC l D ca A G y_Mo_openFlow (.code y_Mo_openFlow b_Mo_openFlow 9 none) ({ frames := 0, cells := 0, slots := 0, locals := 0 }) N M [.ref h, .int (nI pr0), .int (nI sd), .int (nI a0), .int (nI b0), .int (nI c0), .int (nI d0), .int (nI pub)] gm_v (fun (_ : Unit) (N1 : Nat) (M1 : gm_M) => N = N1 ∧ ∃ (mq1 : Nat → Nat → Nat), (relF (nf + 1) (newF fl nf pr0 i0 o0 pub (1 - sd) tm) mq1) ∧ M1 h = some (moO h (nI le) bp (nI nr) (nI wh) (nI tl) (nI ne) (nI (nf + 1)) (nI na) (nI an) (nI tm) (nI cn) (nI cs) (nI bd) (nI lt) (nI nt) fx fy) ∧ M1 (h + 14) = some (.inl (ca 0, 17, .inl (iN (mq1 0)))) ∧ M1 (h + 15) = some (.inl (ca 0, 17, .inl (iN (mq1 1)))) ∧ M1 (h + 16) = some (.inl (ca 0, 17, .inl (iN (mq1 2)))) ∧ M1 (h + 17) = some (.inl (ca 0, 17, .inl (iN (mq1 3)))) ∧ M1 (h + 18) = some (.inl (ca 0, 17, .inl (iN (mq1 4)))) ∧ M1 (h + 19) = some (.inl (ca 0, 17, .inl (iN (mq1 5)))) ∧ M1 (h + 20) = some (.inl (ca 0, 17, .inl (iN (mq1 6)))) ∧ M1 (h + 21) = some (.inl (ca 0, 17, .inl (iN (mq1 7)))) ∧ M1 (h + 22) = some (.inl (ca 0, 17, .inl (iN (mq1 8)))) ∧ M1 (h + 23) = some (.inl (ca 0, 17, .inl (iN (mq1 9)))) ∧ (∀ z, z ≠ h → z ≠ (h + 14) → z ≠ (h + 15) → z ≠ (h + 16) → z ≠ (h + 17) → z ≠ (h + 18) → z ≠ (h + 19) → z ≠ (h + 20) → z ≠ (h + 21) → z ≠ (h + 22) → z ≠ (h + 23) → M1 z = M z)) := by
  refine gm_body (by decide) (Nat.le_of_ble_eq_true rfl) (fun p e s m below meth c ls hx hb hr hts hown hlk hml hnm hP hK hN hX hS hl => ?_)
  have htl : ∀ w ∈ LW, w.before _ s = true := fun w h => hts w (List.mem_cons_of_mem _ h)
  have hown : s.vm.findClass "PacketGateModel" = some m.cls := hown
  have hl : lv_has ls 9 [(0, .ref h), (1, .int (nI pr0)), (2, .int (nI sd)), (3, .int (nI a0)), (4, .int (nI b0)), (5, .int (nI c0)), (6, .int (nI d0)), (7, .int (nI pub))] := hl
  refine lv_aload_n hx hb d_Mo_openFlow_0 rfl (lv_at hl 0 rfl) ?_
  refine gm_get (C := R_Mo) (T := F_Mo) (n := 44) hx hb htl i_Mo hown hK hP eh rfl 29 (by decide) (htl _ k_772) (fun _ h => h) rfl d_Mo_openFlow_1 ?_
  refine lv_istore (lv' := [(8, .int (nI nf)), (0, .ref h), (1, .int (nI pr0)), (2, .int (nI sd)), (3, .int (nI a0)), (4, .int (nI b0)), (5, .int (nI c0)), (6, .int (nI d0)), (7, .int (nI pub))]) hx hb d_Mo_openFlow_4 hl (by decide) rfl (fun ls hl => ?_)
  refine lv_aload_n hx hb d_Mo_openFlow_6 rfl (lv_at hl 1 rfl) ?_
  refine lv_dup hx hb d_Mo_openFlow_7 rfl ?_
  refine gm_get (C := R_Mo) (T := F_Mo) (n := 44) hx hb htl i_Mo hown hK hP eh rfl 29 (by decide) (htl _ k_772) (fun _ h => h) rfl d_Mo_openFlow_8 ?_
  refine lv_iconst (v := nI 1) hx hb d_Mo_openFlow_11 (by decide) ?_
  refine lv_iadd hx hb d_Mo_openFlow_12 ?_
  rw [show (nI nf) + (nI 1) = nI (nf + 1) from nI_add _ _]
  refine gm_put (C := R_Mo) (T := F_Mo) (n := 44) (ty := .int) hx hb htl i_Mo t_Mo tk_Mo n_Mo hown hK hP hS eh rfl 29 (by decide) (htl _ k_772) (fun _ h => h) rfl (tk_Mo 29 (by decide)) rfl rfl (Nat.le_of_ble_eq_true rfl) d_Mo_openFlow_13 (fun H locs hP hS => ?_)
  have hP : gm_P D cls A N (gm_up M h (moO h (nI le) bp (nI nr) (nI wh) (nI tl) (nI ne) (nI (nf + 1)) (nI na) (nI an) (nI tm) (nI cn) (nI cs) (nI bd) (nI lt) (nI nt) fx fy)) H := hP
  have h_1 := gm_pass (k := h) (y := moO h (nI le) bp (nI nr) (nI wh) (nI tl) (nI ne) (nI (nf + 1)) (nI na) (nI an) (nI tm) (nI cn) (nI cs) (nI bd) (nI lt) (nI nt) fx fy) m14 (gm_ne m14 eh (fun h => by cases h))
  have h_2 := gm_pass (k := h) (y := moO h (nI le) bp (nI nr) (nI wh) (nI tl) (nI ne) (nI (nf + 1)) (nI na) (nI an) (nI tm) (nI cn) (nI cs) (nI bd) (nI lt) (nI nt) fx fy) m15 (gm_ne m15 eh (fun h => by cases h))
  have h_3 := gm_pass (k := h) (y := moO h (nI le) bp (nI nr) (nI wh) (nI tl) (nI ne) (nI (nf + 1)) (nI na) (nI an) (nI tm) (nI cn) (nI cs) (nI bd) (nI lt) (nI nt) fx fy) m16 (gm_ne m16 eh (fun h => by cases h))
  have h_4 := gm_pass (k := h) (y := moO h (nI le) bp (nI nr) (nI wh) (nI tl) (nI ne) (nI (nf + 1)) (nI na) (nI an) (nI tm) (nI cn) (nI cs) (nI bd) (nI lt) (nI nt) fx fy) m17 (gm_ne m17 eh (fun h => by cases h))
  have h_5 := gm_pass (k := h) (y := moO h (nI le) bp (nI nr) (nI wh) (nI tl) (nI ne) (nI (nf + 1)) (nI na) (nI an) (nI tm) (nI cn) (nI cs) (nI bd) (nI lt) (nI nt) fx fy) m18 (gm_ne m18 eh (fun h => by cases h))
  have h_6 := gm_pass (k := h) (y := moO h (nI le) bp (nI nr) (nI wh) (nI tl) (nI ne) (nI (nf + 1)) (nI na) (nI an) (nI tm) (nI cn) (nI cs) (nI bd) (nI lt) (nI nt) fx fy) m19 (gm_ne m19 eh (fun h => by cases h))
  have h_7 := gm_pass (k := h) (y := moO h (nI le) bp (nI nr) (nI wh) (nI tl) (nI ne) (nI (nf + 1)) (nI na) (nI an) (nI tm) (nI cn) (nI cs) (nI bd) (nI lt) (nI nt) fx fy) m20 (gm_ne m20 eh (fun h => by cases h))
  have h_8 := gm_pass (k := h) (y := moO h (nI le) bp (nI nr) (nI wh) (nI tl) (nI ne) (nI (nf + 1)) (nI na) (nI an) (nI tm) (nI cn) (nI cs) (nI bd) (nI lt) (nI nt) fx fy) m21 (gm_ne m21 eh (fun h => by cases h))
  have h_9 := gm_pass (k := h) (y := moO h (nI le) bp (nI nr) (nI wh) (nI tl) (nI ne) (nI (nf + 1)) (nI na) (nI an) (nI tm) (nI cn) (nI cs) (nI bd) (nI lt) (nI nt) fx fy) m22 (gm_ne m22 eh (fun h => by cases h))
  have h_10 := gm_pass (k := h) (y := moO h (nI le) bp (nI nr) (nI wh) (nI tl) (nI ne) (nI (nf + 1)) (nI na) (nI an) (nI tm) (nI cn) (nI cs) (nI bd) (nI lt) (nI nt) fx fy) m23 (gm_ne m23 eh (fun h => by cases h))
  have h_11 := gm_up_self M h (moO h (nI le) bp (nI nr) (nI wh) (nI tl) (nI ne) (nI (nf + 1)) (nI na) (nI an) (nI tm) (nI cn) (nI cs) (nI bd) (nI lt) (nI nt) fx fy)
  refine lv_aload_n hx hb d_Mo_openFlow_16 rfl (lv_at hl 1 rfl) ?_
  refine gm_get (C := R_Mo) (T := F_Mo) (n := 44) hx hb htl i_Mo hown hK hP h_11 rfl 19 (by decide) (htl _ k_762) (fun _ h => h) rfl d_Mo_openFlow_17 ?_
  refine lv_iload hx hb d_Mo_openFlow_20 (lv_at hl 0 rfl) ?_
  refine lv_iload_n hx hb d_Mo_openFlow_22 rfl (lv_at hl 2 rfl) ?_
  refine lz_ne (tgt := 30) hx hb d_Mo_openFlow_23 (by decide) (by omega) (fun c_12 => ?_) (fun c_12 => ?_)
  · skip
    refine lv_bipush (v := nI 6) hx hb d_Mo_openFlow_30 (by decide) ?_
    refine gz_iast hx hb hK hP hS 0 h_1 rfl (by omega) (by omega) d_Mo_openFlow_32 (fun H locs hP hS => ?_)
    have hP : gm_P D cls A N (gm_up (gm_up M h (moO h (nI le) bp (nI nr) (nI wh) (nI tl) (nI ne) (nI (nf + 1)) (nI na) (nI an) (nI tm) (nI cn) (nI cs) (nI bd) (nI lt) (nI nt) fx fy)) (h + 14) (.inl (ca 0, 17, .inl (iN (va_up (mq 0) nf 6))))) H := hP
    have h_13 := gm_pass (k := (h + 14)) (y := .inl (ca 0, 17, .inl (iN (va_up (mq 0) nf 6)))) h_2 (by omega)
    have h_14 := gm_pass (k := (h + 14)) (y := .inl (ca 0, 17, .inl (iN (va_up (mq 0) nf 6)))) h_3 (by omega)
    have h_15 := gm_pass (k := (h + 14)) (y := .inl (ca 0, 17, .inl (iN (va_up (mq 0) nf 6)))) h_4 (by omega)
    have h_16 := gm_pass (k := (h + 14)) (y := .inl (ca 0, 17, .inl (iN (va_up (mq 0) nf 6)))) h_5 (by omega)
    have h_17 := gm_pass (k := (h + 14)) (y := .inl (ca 0, 17, .inl (iN (va_up (mq 0) nf 6)))) h_6 (by omega)
    have h_18 := gm_pass (k := (h + 14)) (y := .inl (ca 0, 17, .inl (iN (va_up (mq 0) nf 6)))) h_7 (by omega)
    have h_19 := gm_pass (k := (h + 14)) (y := .inl (ca 0, 17, .inl (iN (va_up (mq 0) nf 6)))) h_8 (by omega)
    have h_20 := gm_pass (k := (h + 14)) (y := .inl (ca 0, 17, .inl (iN (va_up (mq 0) nf 6)))) h_9 (by omega)
    have h_21 := gm_pass (k := (h + 14)) (y := .inl (ca 0, 17, .inl (iN (va_up (mq 0) nf 6)))) h_10 (by omega)
    have h_22 := gm_pass (k := (h + 14)) (y := .inl (ca 0, 17, .inl (iN (va_up (mq 0) nf 6)))) h_11 (gm_ne h_11 h_1 (fun h => by cases h))
    have h_23 := gm_up_self (gm_up M h (moO h (nI le) bp (nI nr) (nI wh) (nI tl) (nI ne) (nI (nf + 1)) (nI na) (nI an) (nI tm) (nI cn) (nI cs) (nI bd) (nI lt) (nI nt) fx fy)) (h + 14) (.inl (ca 0, 17, .inl (iN (va_up (mq 0) nf 6))))
    refine lv_aload_n hx hb d_Mo_openFlow_33 rfl (lv_at hl 1 rfl) ?_
    refine gm_get (C := R_Mo) (T := F_Mo) (n := 44) hx hb htl i_Mo hown hK hP h_22 rfl 20 (by decide) (htl _ k_763) (fun _ h => h) rfl d_Mo_openFlow_34 ?_
    refine lv_iload hx hb d_Mo_openFlow_37 (lv_at hl 0 rfl) ?_
    refine lv_iload_n hx hb d_Mo_openFlow_39 rfl (lv_at hl 2 rfl) ?_
    refine gz_iast hx hb hK hP hS 0 h_13 rfl (by omega) (by omega) d_Mo_openFlow_40 (fun H locs hP hS => ?_)
    have hP : gm_P D cls A N (gm_up (gm_up (gm_up M h (moO h (nI le) bp (nI nr) (nI wh) (nI tl) (nI ne) (nI (nf + 1)) (nI na) (nI an) (nI tm) (nI cn) (nI cs) (nI bd) (nI lt) (nI nt) fx fy)) (h + 14) (.inl (ca 0, 17, .inl (iN (va_up (mq 0) nf 6))))) (h + 15) (.inl (ca 0, 17, .inl (iN (va_up (mq 1) nf pr0))))) H := hP
    have h_24 := gm_pass (k := (h + 15)) (y := .inl (ca 0, 17, .inl (iN (va_up (mq 1) nf pr0)))) h_14 (by omega)
    have h_25 := gm_pass (k := (h + 15)) (y := .inl (ca 0, 17, .inl (iN (va_up (mq 1) nf pr0)))) h_15 (by omega)
    have h_26 := gm_pass (k := (h + 15)) (y := .inl (ca 0, 17, .inl (iN (va_up (mq 1) nf pr0)))) h_16 (by omega)
    have h_27 := gm_pass (k := (h + 15)) (y := .inl (ca 0, 17, .inl (iN (va_up (mq 1) nf pr0)))) h_17 (by omega)
    have h_28 := gm_pass (k := (h + 15)) (y := .inl (ca 0, 17, .inl (iN (va_up (mq 1) nf pr0)))) h_18 (by omega)
    have h_29 := gm_pass (k := (h + 15)) (y := .inl (ca 0, 17, .inl (iN (va_up (mq 1) nf pr0)))) h_19 (by omega)
    have h_30 := gm_pass (k := (h + 15)) (y := .inl (ca 0, 17, .inl (iN (va_up (mq 1) nf pr0)))) h_20 (by omega)
    have h_31 := gm_pass (k := (h + 15)) (y := .inl (ca 0, 17, .inl (iN (va_up (mq 1) nf pr0)))) h_21 (by omega)
    have h_32 := gm_pass (k := (h + 15)) (y := .inl (ca 0, 17, .inl (iN (va_up (mq 1) nf pr0)))) h_22 (gm_ne h_22 h_13 (fun h => by cases h))
    have h_33 := gm_pass (k := (h + 15)) (y := .inl (ca 0, 17, .inl (iN (va_up (mq 1) nf pr0)))) h_23 (by omega)
    have h_34 := gm_up_self (gm_up (gm_up M h (moO h (nI le) bp (nI nr) (nI wh) (nI tl) (nI ne) (nI (nf + 1)) (nI na) (nI an) (nI tm) (nI cn) (nI cs) (nI bd) (nI lt) (nI nt) fx fy)) (h + 14) (.inl (ca 0, 17, .inl (iN (va_up (mq 0) nf 6))))) (h + 15) (.inl (ca 0, 17, .inl (iN (va_up (mq 1) nf pr0))))
    refine lv_aload_n hx hb d_Mo_openFlow_41 rfl (lv_at hl 1 rfl) ?_
    refine gm_get (C := R_Mo) (T := F_Mo) (n := 44) hx hb htl i_Mo hown hK hP h_32 rfl 21 (by decide) (htl _ k_764) (fun _ h => h) rfl d_Mo_openFlow_42 ?_
    refine lv_iload hx hb d_Mo_openFlow_45 (lv_at hl 0 rfl) ?_
    refine lv_iload_n hx hb d_Mo_openFlow_47 rfl (lv_at hl 4 rfl) ?_
    refine gz_iast hx hb hK hP hS 0 h_24 rfl (by omega) (by omega) d_Mo_openFlow_48 (fun H locs hP hS => ?_)
    have hP : gm_P D cls A N (gm_up (gm_up (gm_up (gm_up M h (moO h (nI le) bp (nI nr) (nI wh) (nI tl) (nI ne) (nI (nf + 1)) (nI na) (nI an) (nI tm) (nI cn) (nI cs) (nI bd) (nI lt) (nI nt) fx fy)) (h + 14) (.inl (ca 0, 17, .inl (iN (va_up (mq 0) nf 6))))) (h + 15) (.inl (ca 0, 17, .inl (iN (va_up (mq 1) nf pr0))))) (h + 16) (.inl (ca 0, 17, .inl (iN (va_up (mq 2) nf a0))))) H := hP
    have h_35 := gm_pass (k := (h + 16)) (y := .inl (ca 0, 17, .inl (iN (va_up (mq 2) nf a0)))) h_25 (by omega)
    have h_36 := gm_pass (k := (h + 16)) (y := .inl (ca 0, 17, .inl (iN (va_up (mq 2) nf a0)))) h_26 (by omega)
    have h_37 := gm_pass (k := (h + 16)) (y := .inl (ca 0, 17, .inl (iN (va_up (mq 2) nf a0)))) h_27 (by omega)
    have h_38 := gm_pass (k := (h + 16)) (y := .inl (ca 0, 17, .inl (iN (va_up (mq 2) nf a0)))) h_28 (by omega)
    have h_39 := gm_pass (k := (h + 16)) (y := .inl (ca 0, 17, .inl (iN (va_up (mq 2) nf a0)))) h_29 (by omega)
    have h_40 := gm_pass (k := (h + 16)) (y := .inl (ca 0, 17, .inl (iN (va_up (mq 2) nf a0)))) h_30 (by omega)
    have h_41 := gm_pass (k := (h + 16)) (y := .inl (ca 0, 17, .inl (iN (va_up (mq 2) nf a0)))) h_31 (by omega)
    have h_42 := gm_pass (k := (h + 16)) (y := .inl (ca 0, 17, .inl (iN (va_up (mq 2) nf a0)))) h_32 (gm_ne h_32 h_24 (fun h => by cases h))
    have h_43 := gm_pass (k := (h + 16)) (y := .inl (ca 0, 17, .inl (iN (va_up (mq 2) nf a0)))) h_33 (by omega)
    have h_44 := gm_pass (k := (h + 16)) (y := .inl (ca 0, 17, .inl (iN (va_up (mq 2) nf a0)))) h_34 (by omega)
    have h_45 := gm_up_self (gm_up (gm_up (gm_up M h (moO h (nI le) bp (nI nr) (nI wh) (nI tl) (nI ne) (nI (nf + 1)) (nI na) (nI an) (nI tm) (nI cn) (nI cs) (nI bd) (nI lt) (nI nt) fx fy)) (h + 14) (.inl (ca 0, 17, .inl (iN (va_up (mq 0) nf 6))))) (h + 15) (.inl (ca 0, 17, .inl (iN (va_up (mq 1) nf pr0))))) (h + 16) (.inl (ca 0, 17, .inl (iN (va_up (mq 2) nf a0))))
    refine lv_aload_n hx hb d_Mo_openFlow_49 rfl (lv_at hl 1 rfl) ?_
    refine gm_get (C := R_Mo) (T := F_Mo) (n := 44) hx hb htl i_Mo hown hK hP h_42 rfl 22 (by decide) (htl _ k_765) (fun _ h => h) rfl d_Mo_openFlow_50 ?_
    refine lv_iload hx hb d_Mo_openFlow_53 (lv_at hl 0 rfl) ?_
    refine lv_iload hx hb d_Mo_openFlow_55 (lv_at hl 5 rfl) ?_
    refine gz_iast hx hb hK hP hS 0 h_35 rfl (by omega) (by omega) d_Mo_openFlow_57 (fun H locs hP hS => ?_)
    have hP : gm_P D cls A N (gm_up (gm_up (gm_up (gm_up (gm_up M h (moO h (nI le) bp (nI nr) (nI wh) (nI tl) (nI ne) (nI (nf + 1)) (nI na) (nI an) (nI tm) (nI cn) (nI cs) (nI bd) (nI lt) (nI nt) fx fy)) (h + 14) (.inl (ca 0, 17, .inl (iN (va_up (mq 0) nf 6))))) (h + 15) (.inl (ca 0, 17, .inl (iN (va_up (mq 1) nf pr0))))) (h + 16) (.inl (ca 0, 17, .inl (iN (va_up (mq 2) nf a0))))) (h + 17) (.inl (ca 0, 17, .inl (iN (va_up (mq 3) nf b0))))) H := hP
    have h_46 := gm_pass (k := (h + 17)) (y := .inl (ca 0, 17, .inl (iN (va_up (mq 3) nf b0)))) h_36 (by omega)
    have h_47 := gm_pass (k := (h + 17)) (y := .inl (ca 0, 17, .inl (iN (va_up (mq 3) nf b0)))) h_37 (by omega)
    have h_48 := gm_pass (k := (h + 17)) (y := .inl (ca 0, 17, .inl (iN (va_up (mq 3) nf b0)))) h_38 (by omega)
    have h_49 := gm_pass (k := (h + 17)) (y := .inl (ca 0, 17, .inl (iN (va_up (mq 3) nf b0)))) h_39 (by omega)
    have h_50 := gm_pass (k := (h + 17)) (y := .inl (ca 0, 17, .inl (iN (va_up (mq 3) nf b0)))) h_40 (by omega)
    have h_51 := gm_pass (k := (h + 17)) (y := .inl (ca 0, 17, .inl (iN (va_up (mq 3) nf b0)))) h_41 (by omega)
    have h_52 := gm_pass (k := (h + 17)) (y := .inl (ca 0, 17, .inl (iN (va_up (mq 3) nf b0)))) h_42 (gm_ne h_42 h_35 (fun h => by cases h))
    have h_53 := gm_pass (k := (h + 17)) (y := .inl (ca 0, 17, .inl (iN (va_up (mq 3) nf b0)))) h_43 (by omega)
    have h_54 := gm_pass (k := (h + 17)) (y := .inl (ca 0, 17, .inl (iN (va_up (mq 3) nf b0)))) h_44 (by omega)
    have h_55 := gm_pass (k := (h + 17)) (y := .inl (ca 0, 17, .inl (iN (va_up (mq 3) nf b0)))) h_45 (by omega)
    have h_56 := gm_up_self (gm_up (gm_up (gm_up (gm_up M h (moO h (nI le) bp (nI nr) (nI wh) (nI tl) (nI ne) (nI (nf + 1)) (nI na) (nI an) (nI tm) (nI cn) (nI cs) (nI bd) (nI lt) (nI nt) fx fy)) (h + 14) (.inl (ca 0, 17, .inl (iN (va_up (mq 0) nf 6))))) (h + 15) (.inl (ca 0, 17, .inl (iN (va_up (mq 1) nf pr0))))) (h + 16) (.inl (ca 0, 17, .inl (iN (va_up (mq 2) nf a0))))) (h + 17) (.inl (ca 0, 17, .inl (iN (va_up (mq 3) nf b0))))
    refine lv_aload_n hx hb d_Mo_openFlow_58 rfl (lv_at hl 1 rfl) ?_
    refine gm_get (C := R_Mo) (T := F_Mo) (n := 44) hx hb htl i_Mo hown hK hP h_52 rfl 23 (by decide) (htl _ k_766) (fun _ h => h) rfl d_Mo_openFlow_59 ?_
    refine lv_iload hx hb d_Mo_openFlow_62 (lv_at hl 0 rfl) ?_
    refine lv_iload hx hb d_Mo_openFlow_64 (lv_at hl 6 rfl) ?_
    refine gz_iast hx hb hK hP hS 0 h_46 rfl (by omega) (by omega) d_Mo_openFlow_66 (fun H locs hP hS => ?_)
    have hP : gm_P D cls A N (gm_up (gm_up (gm_up (gm_up (gm_up (gm_up M h (moO h (nI le) bp (nI nr) (nI wh) (nI tl) (nI ne) (nI (nf + 1)) (nI na) (nI an) (nI tm) (nI cn) (nI cs) (nI bd) (nI lt) (nI nt) fx fy)) (h + 14) (.inl (ca 0, 17, .inl (iN (va_up (mq 0) nf 6))))) (h + 15) (.inl (ca 0, 17, .inl (iN (va_up (mq 1) nf pr0))))) (h + 16) (.inl (ca 0, 17, .inl (iN (va_up (mq 2) nf a0))))) (h + 17) (.inl (ca 0, 17, .inl (iN (va_up (mq 3) nf b0))))) (h + 18) (.inl (ca 0, 17, .inl (iN (va_up (mq 4) nf c0))))) H := hP
    have h_57 := gm_pass (k := (h + 18)) (y := .inl (ca 0, 17, .inl (iN (va_up (mq 4) nf c0)))) h_47 (by omega)
    have h_58 := gm_pass (k := (h + 18)) (y := .inl (ca 0, 17, .inl (iN (va_up (mq 4) nf c0)))) h_48 (by omega)
    have h_59 := gm_pass (k := (h + 18)) (y := .inl (ca 0, 17, .inl (iN (va_up (mq 4) nf c0)))) h_49 (by omega)
    have h_60 := gm_pass (k := (h + 18)) (y := .inl (ca 0, 17, .inl (iN (va_up (mq 4) nf c0)))) h_50 (by omega)
    have h_61 := gm_pass (k := (h + 18)) (y := .inl (ca 0, 17, .inl (iN (va_up (mq 4) nf c0)))) h_51 (by omega)
    have h_62 := gm_pass (k := (h + 18)) (y := .inl (ca 0, 17, .inl (iN (va_up (mq 4) nf c0)))) h_52 (gm_ne h_52 h_46 (fun h => by cases h))
    have h_63 := gm_pass (k := (h + 18)) (y := .inl (ca 0, 17, .inl (iN (va_up (mq 4) nf c0)))) h_53 (by omega)
    have h_64 := gm_pass (k := (h + 18)) (y := .inl (ca 0, 17, .inl (iN (va_up (mq 4) nf c0)))) h_54 (by omega)
    have h_65 := gm_pass (k := (h + 18)) (y := .inl (ca 0, 17, .inl (iN (va_up (mq 4) nf c0)))) h_55 (by omega)
    have h_66 := gm_pass (k := (h + 18)) (y := .inl (ca 0, 17, .inl (iN (va_up (mq 4) nf c0)))) h_56 (by omega)
    have h_67 := gm_up_self (gm_up (gm_up (gm_up (gm_up (gm_up M h (moO h (nI le) bp (nI nr) (nI wh) (nI tl) (nI ne) (nI (nf + 1)) (nI na) (nI an) (nI tm) (nI cn) (nI cs) (nI bd) (nI lt) (nI nt) fx fy)) (h + 14) (.inl (ca 0, 17, .inl (iN (va_up (mq 0) nf 6))))) (h + 15) (.inl (ca 0, 17, .inl (iN (va_up (mq 1) nf pr0))))) (h + 16) (.inl (ca 0, 17, .inl (iN (va_up (mq 2) nf a0))))) (h + 17) (.inl (ca 0, 17, .inl (iN (va_up (mq 3) nf b0))))) (h + 18) (.inl (ca 0, 17, .inl (iN (va_up (mq 4) nf c0))))
    refine lv_aload_n hx hb d_Mo_openFlow_67 rfl (lv_at hl 1 rfl) ?_
    refine gm_get (C := R_Mo) (T := F_Mo) (n := 44) hx hb htl i_Mo hown hK hP h_62 rfl 24 (by decide) (htl _ k_767) (fun _ h => h) rfl d_Mo_openFlow_68 ?_
    refine lv_iload hx hb d_Mo_openFlow_71 (lv_at hl 0 rfl) ?_
    refine lv_iload hx hb d_Mo_openFlow_73 (lv_at hl 7 rfl) ?_
    refine gz_iast hx hb hK hP hS 0 h_57 rfl (by omega) (by omega) d_Mo_openFlow_75 (fun H locs hP hS => ?_)
    have hP : gm_P D cls A N (gm_up (gm_up (gm_up (gm_up (gm_up (gm_up (gm_up M h (moO h (nI le) bp (nI nr) (nI wh) (nI tl) (nI ne) (nI (nf + 1)) (nI na) (nI an) (nI tm) (nI cn) (nI cs) (nI bd) (nI lt) (nI nt) fx fy)) (h + 14) (.inl (ca 0, 17, .inl (iN (va_up (mq 0) nf 6))))) (h + 15) (.inl (ca 0, 17, .inl (iN (va_up (mq 1) nf pr0))))) (h + 16) (.inl (ca 0, 17, .inl (iN (va_up (mq 2) nf a0))))) (h + 17) (.inl (ca 0, 17, .inl (iN (va_up (mq 3) nf b0))))) (h + 18) (.inl (ca 0, 17, .inl (iN (va_up (mq 4) nf c0))))) (h + 19) (.inl (ca 0, 17, .inl (iN (va_up (mq 5) nf d0))))) H := hP
    have h_68 := gm_pass (k := (h + 19)) (y := .inl (ca 0, 17, .inl (iN (va_up (mq 5) nf d0)))) h_58 (by omega)
    have h_69 := gm_pass (k := (h + 19)) (y := .inl (ca 0, 17, .inl (iN (va_up (mq 5) nf d0)))) h_59 (by omega)
    have h_70 := gm_pass (k := (h + 19)) (y := .inl (ca 0, 17, .inl (iN (va_up (mq 5) nf d0)))) h_60 (by omega)
    have h_71 := gm_pass (k := (h + 19)) (y := .inl (ca 0, 17, .inl (iN (va_up (mq 5) nf d0)))) h_61 (by omega)
    have h_72 := gm_pass (k := (h + 19)) (y := .inl (ca 0, 17, .inl (iN (va_up (mq 5) nf d0)))) h_62 (gm_ne h_62 h_57 (fun h => by cases h))
    have h_73 := gm_pass (k := (h + 19)) (y := .inl (ca 0, 17, .inl (iN (va_up (mq 5) nf d0)))) h_63 (by omega)
    have h_74 := gm_pass (k := (h + 19)) (y := .inl (ca 0, 17, .inl (iN (va_up (mq 5) nf d0)))) h_64 (by omega)
    have h_75 := gm_pass (k := (h + 19)) (y := .inl (ca 0, 17, .inl (iN (va_up (mq 5) nf d0)))) h_65 (by omega)
    have h_76 := gm_pass (k := (h + 19)) (y := .inl (ca 0, 17, .inl (iN (va_up (mq 5) nf d0)))) h_66 (by omega)
    have h_77 := gm_pass (k := (h + 19)) (y := .inl (ca 0, 17, .inl (iN (va_up (mq 5) nf d0)))) h_67 (by omega)
    have h_78 := gm_up_self (gm_up (gm_up (gm_up (gm_up (gm_up (gm_up M h (moO h (nI le) bp (nI nr) (nI wh) (nI tl) (nI ne) (nI (nf + 1)) (nI na) (nI an) (nI tm) (nI cn) (nI cs) (nI bd) (nI lt) (nI nt) fx fy)) (h + 14) (.inl (ca 0, 17, .inl (iN (va_up (mq 0) nf 6))))) (h + 15) (.inl (ca 0, 17, .inl (iN (va_up (mq 1) nf pr0))))) (h + 16) (.inl (ca 0, 17, .inl (iN (va_up (mq 2) nf a0))))) (h + 17) (.inl (ca 0, 17, .inl (iN (va_up (mq 3) nf b0))))) (h + 18) (.inl (ca 0, 17, .inl (iN (va_up (mq 4) nf c0))))) (h + 19) (.inl (ca 0, 17, .inl (iN (va_up (mq 5) nf d0))))
    refine lv_aload_n hx hb d_Mo_openFlow_76 rfl (lv_at hl 1 rfl) ?_
    refine gm_get (C := R_Mo) (T := F_Mo) (n := 44) hx hb htl i_Mo hown hK hP h_72 rfl 25 (by decide) (htl _ k_768) (fun _ h => h) rfl d_Mo_openFlow_77 ?_
    refine lv_iload hx hb d_Mo_openFlow_80 (lv_at hl 0 rfl) ?_
    refine lv_iload hx hb d_Mo_openFlow_82 (lv_at hl 8 rfl) ?_
    refine gz_iast hx hb hK hP hS 0 h_68 rfl (by omega) (by omega) d_Mo_openFlow_84 (fun H locs hP hS => ?_)
    have hP : gm_P D cls A N (gm_up (gm_up (gm_up (gm_up (gm_up (gm_up (gm_up (gm_up M h (moO h (nI le) bp (nI nr) (nI wh) (nI tl) (nI ne) (nI (nf + 1)) (nI na) (nI an) (nI tm) (nI cn) (nI cs) (nI bd) (nI lt) (nI nt) fx fy)) (h + 14) (.inl (ca 0, 17, .inl (iN (va_up (mq 0) nf 6))))) (h + 15) (.inl (ca 0, 17, .inl (iN (va_up (mq 1) nf pr0))))) (h + 16) (.inl (ca 0, 17, .inl (iN (va_up (mq 2) nf a0))))) (h + 17) (.inl (ca 0, 17, .inl (iN (va_up (mq 3) nf b0))))) (h + 18) (.inl (ca 0, 17, .inl (iN (va_up (mq 4) nf c0))))) (h + 19) (.inl (ca 0, 17, .inl (iN (va_up (mq 5) nf d0))))) (h + 20) (.inl (ca 0, 17, .inl (iN (va_up (mq 6) nf pub))))) H := hP
    have h_79 := gm_pass (k := (h + 20)) (y := .inl (ca 0, 17, .inl (iN (va_up (mq 6) nf pub)))) h_69 (by omega)
    have h_80 := gm_pass (k := (h + 20)) (y := .inl (ca 0, 17, .inl (iN (va_up (mq 6) nf pub)))) h_70 (by omega)
    have h_81 := gm_pass (k := (h + 20)) (y := .inl (ca 0, 17, .inl (iN (va_up (mq 6) nf pub)))) h_71 (by omega)
    have h_82 := gm_pass (k := (h + 20)) (y := .inl (ca 0, 17, .inl (iN (va_up (mq 6) nf pub)))) h_72 (gm_ne h_72 h_68 (fun h => by cases h))
    have h_83 := gm_pass (k := (h + 20)) (y := .inl (ca 0, 17, .inl (iN (va_up (mq 6) nf pub)))) h_73 (by omega)
    have h_84 := gm_pass (k := (h + 20)) (y := .inl (ca 0, 17, .inl (iN (va_up (mq 6) nf pub)))) h_74 (by omega)
    have h_85 := gm_pass (k := (h + 20)) (y := .inl (ca 0, 17, .inl (iN (va_up (mq 6) nf pub)))) h_75 (by omega)
    have h_86 := gm_pass (k := (h + 20)) (y := .inl (ca 0, 17, .inl (iN (va_up (mq 6) nf pub)))) h_76 (by omega)
    have h_87 := gm_pass (k := (h + 20)) (y := .inl (ca 0, 17, .inl (iN (va_up (mq 6) nf pub)))) h_77 (by omega)
    have h_88 := gm_pass (k := (h + 20)) (y := .inl (ca 0, 17, .inl (iN (va_up (mq 6) nf pub)))) h_78 (by omega)
    have h_89 := gm_up_self (gm_up (gm_up (gm_up (gm_up (gm_up (gm_up (gm_up M h (moO h (nI le) bp (nI nr) (nI wh) (nI tl) (nI ne) (nI (nf + 1)) (nI na) (nI an) (nI tm) (nI cn) (nI cs) (nI bd) (nI lt) (nI nt) fx fy)) (h + 14) (.inl (ca 0, 17, .inl (iN (va_up (mq 0) nf 6))))) (h + 15) (.inl (ca 0, 17, .inl (iN (va_up (mq 1) nf pr0))))) (h + 16) (.inl (ca 0, 17, .inl (iN (va_up (mq 2) nf a0))))) (h + 17) (.inl (ca 0, 17, .inl (iN (va_up (mq 3) nf b0))))) (h + 18) (.inl (ca 0, 17, .inl (iN (va_up (mq 4) nf c0))))) (h + 19) (.inl (ca 0, 17, .inl (iN (va_up (mq 5) nf d0))))) (h + 20) (.inl (ca 0, 17, .inl (iN (va_up (mq 6) nf pub))))
    refine lv_aload_n hx hb d_Mo_openFlow_85 rfl (lv_at hl 1 rfl) ?_
    refine gm_get (C := R_Mo) (T := F_Mo) (n := 44) hx hb htl i_Mo hown hK hP h_82 rfl 26 (by decide) (htl _ k_769) (fun _ h => h) rfl d_Mo_openFlow_86 ?_
    refine lv_iload hx hb d_Mo_openFlow_89 (lv_at hl 0 rfl) ?_
    refine lv_aload_n hx hb d_Mo_openFlow_91 rfl (lv_at hl 1 rfl) ?_
    refine gm_get (C := R_Mo) (T := F_Mo) (n := 44) hx hb htl i_Mo hown hK hP h_82 rfl 36 (by decide) (htl _ k_779) (fun _ h => h) rfl d_Mo_openFlow_92 ?_
    refine gz_iast hx hb hK hP hS 0 h_79 rfl (by omega) (by omega) d_Mo_openFlow_95 (fun H locs hP hS => ?_)
    have hP : gm_P D cls A N (gm_up (gm_up (gm_up (gm_up (gm_up (gm_up (gm_up (gm_up (gm_up M h (moO h (nI le) bp (nI nr) (nI wh) (nI tl) (nI ne) (nI (nf + 1)) (nI na) (nI an) (nI tm) (nI cn) (nI cs) (nI bd) (nI lt) (nI nt) fx fy)) (h + 14) (.inl (ca 0, 17, .inl (iN (va_up (mq 0) nf 6))))) (h + 15) (.inl (ca 0, 17, .inl (iN (va_up (mq 1) nf pr0))))) (h + 16) (.inl (ca 0, 17, .inl (iN (va_up (mq 2) nf a0))))) (h + 17) (.inl (ca 0, 17, .inl (iN (va_up (mq 3) nf b0))))) (h + 18) (.inl (ca 0, 17, .inl (iN (va_up (mq 4) nf c0))))) (h + 19) (.inl (ca 0, 17, .inl (iN (va_up (mq 5) nf d0))))) (h + 20) (.inl (ca 0, 17, .inl (iN (va_up (mq 6) nf pub))))) (h + 21) (.inl (ca 0, 17, .inl (iN (va_up (mq 7) nf tm))))) H := hP
    have h_90 := gm_pass (k := (h + 21)) (y := .inl (ca 0, 17, .inl (iN (va_up (mq 7) nf tm)))) h_80 (by omega)
    have h_91 := gm_pass (k := (h + 21)) (y := .inl (ca 0, 17, .inl (iN (va_up (mq 7) nf tm)))) h_81 (by omega)
    have h_92 := gm_pass (k := (h + 21)) (y := .inl (ca 0, 17, .inl (iN (va_up (mq 7) nf tm)))) h_82 (gm_ne h_82 h_79 (fun h => by cases h))
    have h_93 := gm_pass (k := (h + 21)) (y := .inl (ca 0, 17, .inl (iN (va_up (mq 7) nf tm)))) h_83 (by omega)
    have h_94 := gm_pass (k := (h + 21)) (y := .inl (ca 0, 17, .inl (iN (va_up (mq 7) nf tm)))) h_84 (by omega)
    have h_95 := gm_pass (k := (h + 21)) (y := .inl (ca 0, 17, .inl (iN (va_up (mq 7) nf tm)))) h_85 (by omega)
    have h_96 := gm_pass (k := (h + 21)) (y := .inl (ca 0, 17, .inl (iN (va_up (mq 7) nf tm)))) h_86 (by omega)
    have h_97 := gm_pass (k := (h + 21)) (y := .inl (ca 0, 17, .inl (iN (va_up (mq 7) nf tm)))) h_87 (by omega)
    have h_98 := gm_pass (k := (h + 21)) (y := .inl (ca 0, 17, .inl (iN (va_up (mq 7) nf tm)))) h_88 (by omega)
    have h_99 := gm_pass (k := (h + 21)) (y := .inl (ca 0, 17, .inl (iN (va_up (mq 7) nf tm)))) h_89 (by omega)
    have h_100 := gm_up_self (gm_up (gm_up (gm_up (gm_up (gm_up (gm_up (gm_up (gm_up M h (moO h (nI le) bp (nI nr) (nI wh) (nI tl) (nI ne) (nI (nf + 1)) (nI na) (nI an) (nI tm) (nI cn) (nI cs) (nI bd) (nI lt) (nI nt) fx fy)) (h + 14) (.inl (ca 0, 17, .inl (iN (va_up (mq 0) nf 6))))) (h + 15) (.inl (ca 0, 17, .inl (iN (va_up (mq 1) nf pr0))))) (h + 16) (.inl (ca 0, 17, .inl (iN (va_up (mq 2) nf a0))))) (h + 17) (.inl (ca 0, 17, .inl (iN (va_up (mq 3) nf b0))))) (h + 18) (.inl (ca 0, 17, .inl (iN (va_up (mq 4) nf c0))))) (h + 19) (.inl (ca 0, 17, .inl (iN (va_up (mq 5) nf d0))))) (h + 20) (.inl (ca 0, 17, .inl (iN (va_up (mq 6) nf pub))))) (h + 21) (.inl (ca 0, 17, .inl (iN (va_up (mq 7) nf tm))))
    refine lv_aload_n hx hb d_Mo_openFlow_96 rfl (lv_at hl 1 rfl) ?_
    refine gm_get (C := R_Mo) (T := F_Mo) (n := 44) hx hb htl i_Mo hown hK hP h_92 rfl 27 (by decide) (htl _ k_770) (fun _ h => h) rfl d_Mo_openFlow_97 ?_
    refine lv_iload hx hb d_Mo_openFlow_100 (lv_at hl 0 rfl) ?_
    refine lv_iload_n hx hb d_Mo_openFlow_102 rfl (lv_at hl 3 rfl) ?_
    refine gz_iast hx hb hK hP hS 0 h_90 rfl (by omega) (by omega) d_Mo_openFlow_103 (fun H locs hP hS => ?_)
    have hP : gm_P D cls A N (gm_up (gm_up (gm_up (gm_up (gm_up (gm_up (gm_up (gm_up (gm_up (gm_up M h (moO h (nI le) bp (nI nr) (nI wh) (nI tl) (nI ne) (nI (nf + 1)) (nI na) (nI an) (nI tm) (nI cn) (nI cs) (nI bd) (nI lt) (nI nt) fx fy)) (h + 14) (.inl (ca 0, 17, .inl (iN (va_up (mq 0) nf 6))))) (h + 15) (.inl (ca 0, 17, .inl (iN (va_up (mq 1) nf pr0))))) (h + 16) (.inl (ca 0, 17, .inl (iN (va_up (mq 2) nf a0))))) (h + 17) (.inl (ca 0, 17, .inl (iN (va_up (mq 3) nf b0))))) (h + 18) (.inl (ca 0, 17, .inl (iN (va_up (mq 4) nf c0))))) (h + 19) (.inl (ca 0, 17, .inl (iN (va_up (mq 5) nf d0))))) (h + 20) (.inl (ca 0, 17, .inl (iN (va_up (mq 6) nf pub))))) (h + 21) (.inl (ca 0, 17, .inl (iN (va_up (mq 7) nf tm))))) (h + 22) (.inl (ca 0, 17, .inl (iN (va_up (mq 8) nf sd))))) H := hP
    have h_101 := gm_pass (k := (h + 22)) (y := .inl (ca 0, 17, .inl (iN (va_up (mq 8) nf sd)))) h_91 (by omega)
    have h_102 := gm_pass (k := (h + 22)) (y := .inl (ca 0, 17, .inl (iN (va_up (mq 8) nf sd)))) h_92 (gm_ne h_92 h_90 (fun h => by cases h))
    have h_103 := gm_pass (k := (h + 22)) (y := .inl (ca 0, 17, .inl (iN (va_up (mq 8) nf sd)))) h_93 (by omega)
    have h_104 := gm_pass (k := (h + 22)) (y := .inl (ca 0, 17, .inl (iN (va_up (mq 8) nf sd)))) h_94 (by omega)
    have h_105 := gm_pass (k := (h + 22)) (y := .inl (ca 0, 17, .inl (iN (va_up (mq 8) nf sd)))) h_95 (by omega)
    have h_106 := gm_pass (k := (h + 22)) (y := .inl (ca 0, 17, .inl (iN (va_up (mq 8) nf sd)))) h_96 (by omega)
    have h_107 := gm_pass (k := (h + 22)) (y := .inl (ca 0, 17, .inl (iN (va_up (mq 8) nf sd)))) h_97 (by omega)
    have h_108 := gm_pass (k := (h + 22)) (y := .inl (ca 0, 17, .inl (iN (va_up (mq 8) nf sd)))) h_98 (by omega)
    have h_109 := gm_pass (k := (h + 22)) (y := .inl (ca 0, 17, .inl (iN (va_up (mq 8) nf sd)))) h_99 (by omega)
    have h_110 := gm_pass (k := (h + 22)) (y := .inl (ca 0, 17, .inl (iN (va_up (mq 8) nf sd)))) h_100 (by omega)
    have h_111 := gm_up_self (gm_up (gm_up (gm_up (gm_up (gm_up (gm_up (gm_up (gm_up (gm_up M h (moO h (nI le) bp (nI nr) (nI wh) (nI tl) (nI ne) (nI (nf + 1)) (nI na) (nI an) (nI tm) (nI cn) (nI cs) (nI bd) (nI lt) (nI nt) fx fy)) (h + 14) (.inl (ca 0, 17, .inl (iN (va_up (mq 0) nf 6))))) (h + 15) (.inl (ca 0, 17, .inl (iN (va_up (mq 1) nf pr0))))) (h + 16) (.inl (ca 0, 17, .inl (iN (va_up (mq 2) nf a0))))) (h + 17) (.inl (ca 0, 17, .inl (iN (va_up (mq 3) nf b0))))) (h + 18) (.inl (ca 0, 17, .inl (iN (va_up (mq 4) nf c0))))) (h + 19) (.inl (ca 0, 17, .inl (iN (va_up (mq 5) nf d0))))) (h + 20) (.inl (ca 0, 17, .inl (iN (va_up (mq 6) nf pub))))) (h + 21) (.inl (ca 0, 17, .inl (iN (va_up (mq 7) nf tm))))) (h + 22) (.inl (ca 0, 17, .inl (iN (va_up (mq 8) nf sd))))
    exact gc_vret hx hb hr hlk hP hS d_Mo_openFlow_104 ⟨rfl, mkQ (va_up (mq 0) nf 6) (va_up (mq 1) nf pr0) (va_up (mq 2) nf a0) (va_up (mq 3) nf b0) (va_up (mq 4) nf c0) (va_up (mq 5) nf d0) (va_up (mq 6) nf pub) (va_up (mq 7) nf tm) (va_up (mq 8) nf sd) (mq 9), relF_new hRF (by first | rw [if_pos (by assumption)] | rw [if_neg (by assumption)]) hab (by omega), h_102, h_103, h_104, h_105, h_106, h_107, h_108, h_109, h_110, h_111, h_101, (fun z q0 q1 q2 q3 q4 q5 q6 q7 q8 q9 q10 => (gm_up_ne _ _ q9).trans ((gm_up_ne _ _ q8).trans ((gm_up_ne _ _ q7).trans ((gm_up_ne _ _ q6).trans ((gm_up_ne _ _ q5).trans ((gm_up_ne _ _ q4).trans ((gm_up_ne _ _ q3).trans ((gm_up_ne _ _ q2).trans ((gm_up_ne _ _ q1).trans ((gm_up_ne _ _ q0).trans (rfl)))))))))))⟩
  · skip
    refine lv_iconst (v := nI 1) hx hb d_Mo_openFlow_26 (by decide) ?_
    refine lv_goto (tgt := 32) hx hb d_Mo_openFlow_27 (by decide) ?_
    refine gz_iast hx hb hK hP hS 0 h_1 rfl (by omega) (by omega) d_Mo_openFlow_32 (fun H locs hP hS => ?_)
    have hP : gm_P D cls A N (gm_up (gm_up M h (moO h (nI le) bp (nI nr) (nI wh) (nI tl) (nI ne) (nI (nf + 1)) (nI na) (nI an) (nI tm) (nI cn) (nI cs) (nI bd) (nI lt) (nI nt) fx fy)) (h + 14) (.inl (ca 0, 17, .inl (iN (va_up (mq 0) nf 1))))) H := hP
    have h_112 := gm_pass (k := (h + 14)) (y := .inl (ca 0, 17, .inl (iN (va_up (mq 0) nf 1)))) h_2 (by omega)
    have h_113 := gm_pass (k := (h + 14)) (y := .inl (ca 0, 17, .inl (iN (va_up (mq 0) nf 1)))) h_3 (by omega)
    have h_114 := gm_pass (k := (h + 14)) (y := .inl (ca 0, 17, .inl (iN (va_up (mq 0) nf 1)))) h_4 (by omega)
    have h_115 := gm_pass (k := (h + 14)) (y := .inl (ca 0, 17, .inl (iN (va_up (mq 0) nf 1)))) h_5 (by omega)
    have h_116 := gm_pass (k := (h + 14)) (y := .inl (ca 0, 17, .inl (iN (va_up (mq 0) nf 1)))) h_6 (by omega)
    have h_117 := gm_pass (k := (h + 14)) (y := .inl (ca 0, 17, .inl (iN (va_up (mq 0) nf 1)))) h_7 (by omega)
    have h_118 := gm_pass (k := (h + 14)) (y := .inl (ca 0, 17, .inl (iN (va_up (mq 0) nf 1)))) h_8 (by omega)
    have h_119 := gm_pass (k := (h + 14)) (y := .inl (ca 0, 17, .inl (iN (va_up (mq 0) nf 1)))) h_9 (by omega)
    have h_120 := gm_pass (k := (h + 14)) (y := .inl (ca 0, 17, .inl (iN (va_up (mq 0) nf 1)))) h_10 (by omega)
    have h_121 := gm_pass (k := (h + 14)) (y := .inl (ca 0, 17, .inl (iN (va_up (mq 0) nf 1)))) h_11 (gm_ne h_11 h_1 (fun h => by cases h))
    have h_122 := gm_up_self (gm_up M h (moO h (nI le) bp (nI nr) (nI wh) (nI tl) (nI ne) (nI (nf + 1)) (nI na) (nI an) (nI tm) (nI cn) (nI cs) (nI bd) (nI lt) (nI nt) fx fy)) (h + 14) (.inl (ca 0, 17, .inl (iN (va_up (mq 0) nf 1))))
    refine lv_aload_n hx hb d_Mo_openFlow_33 rfl (lv_at hl 1 rfl) ?_
    refine gm_get (C := R_Mo) (T := F_Mo) (n := 44) hx hb htl i_Mo hown hK hP h_121 rfl 20 (by decide) (htl _ k_763) (fun _ h => h) rfl d_Mo_openFlow_34 ?_
    refine lv_iload hx hb d_Mo_openFlow_37 (lv_at hl 0 rfl) ?_
    refine lv_iload_n hx hb d_Mo_openFlow_39 rfl (lv_at hl 2 rfl) ?_
    refine gz_iast hx hb hK hP hS 0 h_112 rfl (by omega) (by omega) d_Mo_openFlow_40 (fun H locs hP hS => ?_)
    have hP : gm_P D cls A N (gm_up (gm_up (gm_up M h (moO h (nI le) bp (nI nr) (nI wh) (nI tl) (nI ne) (nI (nf + 1)) (nI na) (nI an) (nI tm) (nI cn) (nI cs) (nI bd) (nI lt) (nI nt) fx fy)) (h + 14) (.inl (ca 0, 17, .inl (iN (va_up (mq 0) nf 1))))) (h + 15) (.inl (ca 0, 17, .inl (iN (va_up (mq 1) nf pr0))))) H := hP
    have h_123 := gm_pass (k := (h + 15)) (y := .inl (ca 0, 17, .inl (iN (va_up (mq 1) nf pr0)))) h_113 (by omega)
    have h_124 := gm_pass (k := (h + 15)) (y := .inl (ca 0, 17, .inl (iN (va_up (mq 1) nf pr0)))) h_114 (by omega)
    have h_125 := gm_pass (k := (h + 15)) (y := .inl (ca 0, 17, .inl (iN (va_up (mq 1) nf pr0)))) h_115 (by omega)
    have h_126 := gm_pass (k := (h + 15)) (y := .inl (ca 0, 17, .inl (iN (va_up (mq 1) nf pr0)))) h_116 (by omega)
    have h_127 := gm_pass (k := (h + 15)) (y := .inl (ca 0, 17, .inl (iN (va_up (mq 1) nf pr0)))) h_117 (by omega)
    have h_128 := gm_pass (k := (h + 15)) (y := .inl (ca 0, 17, .inl (iN (va_up (mq 1) nf pr0)))) h_118 (by omega)
    have h_129 := gm_pass (k := (h + 15)) (y := .inl (ca 0, 17, .inl (iN (va_up (mq 1) nf pr0)))) h_119 (by omega)
    have h_130 := gm_pass (k := (h + 15)) (y := .inl (ca 0, 17, .inl (iN (va_up (mq 1) nf pr0)))) h_120 (by omega)
    have h_131 := gm_pass (k := (h + 15)) (y := .inl (ca 0, 17, .inl (iN (va_up (mq 1) nf pr0)))) h_121 (gm_ne h_121 h_112 (fun h => by cases h))
    have h_132 := gm_pass (k := (h + 15)) (y := .inl (ca 0, 17, .inl (iN (va_up (mq 1) nf pr0)))) h_122 (by omega)
    have h_133 := gm_up_self (gm_up (gm_up M h (moO h (nI le) bp (nI nr) (nI wh) (nI tl) (nI ne) (nI (nf + 1)) (nI na) (nI an) (nI tm) (nI cn) (nI cs) (nI bd) (nI lt) (nI nt) fx fy)) (h + 14) (.inl (ca 0, 17, .inl (iN (va_up (mq 0) nf 1))))) (h + 15) (.inl (ca 0, 17, .inl (iN (va_up (mq 1) nf pr0))))
    refine lv_aload_n hx hb d_Mo_openFlow_41 rfl (lv_at hl 1 rfl) ?_
    refine gm_get (C := R_Mo) (T := F_Mo) (n := 44) hx hb htl i_Mo hown hK hP h_131 rfl 21 (by decide) (htl _ k_764) (fun _ h => h) rfl d_Mo_openFlow_42 ?_
    refine lv_iload hx hb d_Mo_openFlow_45 (lv_at hl 0 rfl) ?_
    refine lv_iload_n hx hb d_Mo_openFlow_47 rfl (lv_at hl 4 rfl) ?_
    refine gz_iast hx hb hK hP hS 0 h_123 rfl (by omega) (by omega) d_Mo_openFlow_48 (fun H locs hP hS => ?_)
    have hP : gm_P D cls A N (gm_up (gm_up (gm_up (gm_up M h (moO h (nI le) bp (nI nr) (nI wh) (nI tl) (nI ne) (nI (nf + 1)) (nI na) (nI an) (nI tm) (nI cn) (nI cs) (nI bd) (nI lt) (nI nt) fx fy)) (h + 14) (.inl (ca 0, 17, .inl (iN (va_up (mq 0) nf 1))))) (h + 15) (.inl (ca 0, 17, .inl (iN (va_up (mq 1) nf pr0))))) (h + 16) (.inl (ca 0, 17, .inl (iN (va_up (mq 2) nf a0))))) H := hP
    have h_134 := gm_pass (k := (h + 16)) (y := .inl (ca 0, 17, .inl (iN (va_up (mq 2) nf a0)))) h_124 (by omega)
    have h_135 := gm_pass (k := (h + 16)) (y := .inl (ca 0, 17, .inl (iN (va_up (mq 2) nf a0)))) h_125 (by omega)
    have h_136 := gm_pass (k := (h + 16)) (y := .inl (ca 0, 17, .inl (iN (va_up (mq 2) nf a0)))) h_126 (by omega)
    have h_137 := gm_pass (k := (h + 16)) (y := .inl (ca 0, 17, .inl (iN (va_up (mq 2) nf a0)))) h_127 (by omega)
    have h_138 := gm_pass (k := (h + 16)) (y := .inl (ca 0, 17, .inl (iN (va_up (mq 2) nf a0)))) h_128 (by omega)
    have h_139 := gm_pass (k := (h + 16)) (y := .inl (ca 0, 17, .inl (iN (va_up (mq 2) nf a0)))) h_129 (by omega)
    have h_140 := gm_pass (k := (h + 16)) (y := .inl (ca 0, 17, .inl (iN (va_up (mq 2) nf a0)))) h_130 (by omega)
    have h_141 := gm_pass (k := (h + 16)) (y := .inl (ca 0, 17, .inl (iN (va_up (mq 2) nf a0)))) h_131 (gm_ne h_131 h_123 (fun h => by cases h))
    have h_142 := gm_pass (k := (h + 16)) (y := .inl (ca 0, 17, .inl (iN (va_up (mq 2) nf a0)))) h_132 (by omega)
    have h_143 := gm_pass (k := (h + 16)) (y := .inl (ca 0, 17, .inl (iN (va_up (mq 2) nf a0)))) h_133 (by omega)
    have h_144 := gm_up_self (gm_up (gm_up (gm_up M h (moO h (nI le) bp (nI nr) (nI wh) (nI tl) (nI ne) (nI (nf + 1)) (nI na) (nI an) (nI tm) (nI cn) (nI cs) (nI bd) (nI lt) (nI nt) fx fy)) (h + 14) (.inl (ca 0, 17, .inl (iN (va_up (mq 0) nf 1))))) (h + 15) (.inl (ca 0, 17, .inl (iN (va_up (mq 1) nf pr0))))) (h + 16) (.inl (ca 0, 17, .inl (iN (va_up (mq 2) nf a0))))
    refine lv_aload_n hx hb d_Mo_openFlow_49 rfl (lv_at hl 1 rfl) ?_
    refine gm_get (C := R_Mo) (T := F_Mo) (n := 44) hx hb htl i_Mo hown hK hP h_141 rfl 22 (by decide) (htl _ k_765) (fun _ h => h) rfl d_Mo_openFlow_50 ?_
    refine lv_iload hx hb d_Mo_openFlow_53 (lv_at hl 0 rfl) ?_
    refine lv_iload hx hb d_Mo_openFlow_55 (lv_at hl 5 rfl) ?_
    refine gz_iast hx hb hK hP hS 0 h_134 rfl (by omega) (by omega) d_Mo_openFlow_57 (fun H locs hP hS => ?_)
    have hP : gm_P D cls A N (gm_up (gm_up (gm_up (gm_up (gm_up M h (moO h (nI le) bp (nI nr) (nI wh) (nI tl) (nI ne) (nI (nf + 1)) (nI na) (nI an) (nI tm) (nI cn) (nI cs) (nI bd) (nI lt) (nI nt) fx fy)) (h + 14) (.inl (ca 0, 17, .inl (iN (va_up (mq 0) nf 1))))) (h + 15) (.inl (ca 0, 17, .inl (iN (va_up (mq 1) nf pr0))))) (h + 16) (.inl (ca 0, 17, .inl (iN (va_up (mq 2) nf a0))))) (h + 17) (.inl (ca 0, 17, .inl (iN (va_up (mq 3) nf b0))))) H := hP
    have h_145 := gm_pass (k := (h + 17)) (y := .inl (ca 0, 17, .inl (iN (va_up (mq 3) nf b0)))) h_135 (by omega)
    have h_146 := gm_pass (k := (h + 17)) (y := .inl (ca 0, 17, .inl (iN (va_up (mq 3) nf b0)))) h_136 (by omega)
    have h_147 := gm_pass (k := (h + 17)) (y := .inl (ca 0, 17, .inl (iN (va_up (mq 3) nf b0)))) h_137 (by omega)
    have h_148 := gm_pass (k := (h + 17)) (y := .inl (ca 0, 17, .inl (iN (va_up (mq 3) nf b0)))) h_138 (by omega)
    have h_149 := gm_pass (k := (h + 17)) (y := .inl (ca 0, 17, .inl (iN (va_up (mq 3) nf b0)))) h_139 (by omega)
    have h_150 := gm_pass (k := (h + 17)) (y := .inl (ca 0, 17, .inl (iN (va_up (mq 3) nf b0)))) h_140 (by omega)
    have h_151 := gm_pass (k := (h + 17)) (y := .inl (ca 0, 17, .inl (iN (va_up (mq 3) nf b0)))) h_141 (gm_ne h_141 h_134 (fun h => by cases h))
    have h_152 := gm_pass (k := (h + 17)) (y := .inl (ca 0, 17, .inl (iN (va_up (mq 3) nf b0)))) h_142 (by omega)
    have h_153 := gm_pass (k := (h + 17)) (y := .inl (ca 0, 17, .inl (iN (va_up (mq 3) nf b0)))) h_143 (by omega)
    have h_154 := gm_pass (k := (h + 17)) (y := .inl (ca 0, 17, .inl (iN (va_up (mq 3) nf b0)))) h_144 (by omega)
    have h_155 := gm_up_self (gm_up (gm_up (gm_up (gm_up M h (moO h (nI le) bp (nI nr) (nI wh) (nI tl) (nI ne) (nI (nf + 1)) (nI na) (nI an) (nI tm) (nI cn) (nI cs) (nI bd) (nI lt) (nI nt) fx fy)) (h + 14) (.inl (ca 0, 17, .inl (iN (va_up (mq 0) nf 1))))) (h + 15) (.inl (ca 0, 17, .inl (iN (va_up (mq 1) nf pr0))))) (h + 16) (.inl (ca 0, 17, .inl (iN (va_up (mq 2) nf a0))))) (h + 17) (.inl (ca 0, 17, .inl (iN (va_up (mq 3) nf b0))))
    refine lv_aload_n hx hb d_Mo_openFlow_58 rfl (lv_at hl 1 rfl) ?_
    refine gm_get (C := R_Mo) (T := F_Mo) (n := 44) hx hb htl i_Mo hown hK hP h_151 rfl 23 (by decide) (htl _ k_766) (fun _ h => h) rfl d_Mo_openFlow_59 ?_
    refine lv_iload hx hb d_Mo_openFlow_62 (lv_at hl 0 rfl) ?_
    refine lv_iload hx hb d_Mo_openFlow_64 (lv_at hl 6 rfl) ?_
    refine gz_iast hx hb hK hP hS 0 h_145 rfl (by omega) (by omega) d_Mo_openFlow_66 (fun H locs hP hS => ?_)
    have hP : gm_P D cls A N (gm_up (gm_up (gm_up (gm_up (gm_up (gm_up M h (moO h (nI le) bp (nI nr) (nI wh) (nI tl) (nI ne) (nI (nf + 1)) (nI na) (nI an) (nI tm) (nI cn) (nI cs) (nI bd) (nI lt) (nI nt) fx fy)) (h + 14) (.inl (ca 0, 17, .inl (iN (va_up (mq 0) nf 1))))) (h + 15) (.inl (ca 0, 17, .inl (iN (va_up (mq 1) nf pr0))))) (h + 16) (.inl (ca 0, 17, .inl (iN (va_up (mq 2) nf a0))))) (h + 17) (.inl (ca 0, 17, .inl (iN (va_up (mq 3) nf b0))))) (h + 18) (.inl (ca 0, 17, .inl (iN (va_up (mq 4) nf c0))))) H := hP
    have h_156 := gm_pass (k := (h + 18)) (y := .inl (ca 0, 17, .inl (iN (va_up (mq 4) nf c0)))) h_146 (by omega)
    have h_157 := gm_pass (k := (h + 18)) (y := .inl (ca 0, 17, .inl (iN (va_up (mq 4) nf c0)))) h_147 (by omega)
    have h_158 := gm_pass (k := (h + 18)) (y := .inl (ca 0, 17, .inl (iN (va_up (mq 4) nf c0)))) h_148 (by omega)
    have h_159 := gm_pass (k := (h + 18)) (y := .inl (ca 0, 17, .inl (iN (va_up (mq 4) nf c0)))) h_149 (by omega)
    have h_160 := gm_pass (k := (h + 18)) (y := .inl (ca 0, 17, .inl (iN (va_up (mq 4) nf c0)))) h_150 (by omega)
    have h_161 := gm_pass (k := (h + 18)) (y := .inl (ca 0, 17, .inl (iN (va_up (mq 4) nf c0)))) h_151 (gm_ne h_151 h_145 (fun h => by cases h))
    have h_162 := gm_pass (k := (h + 18)) (y := .inl (ca 0, 17, .inl (iN (va_up (mq 4) nf c0)))) h_152 (by omega)
    have h_163 := gm_pass (k := (h + 18)) (y := .inl (ca 0, 17, .inl (iN (va_up (mq 4) nf c0)))) h_153 (by omega)
    have h_164 := gm_pass (k := (h + 18)) (y := .inl (ca 0, 17, .inl (iN (va_up (mq 4) nf c0)))) h_154 (by omega)
    have h_165 := gm_pass (k := (h + 18)) (y := .inl (ca 0, 17, .inl (iN (va_up (mq 4) nf c0)))) h_155 (by omega)
    have h_166 := gm_up_self (gm_up (gm_up (gm_up (gm_up (gm_up M h (moO h (nI le) bp (nI nr) (nI wh) (nI tl) (nI ne) (nI (nf + 1)) (nI na) (nI an) (nI tm) (nI cn) (nI cs) (nI bd) (nI lt) (nI nt) fx fy)) (h + 14) (.inl (ca 0, 17, .inl (iN (va_up (mq 0) nf 1))))) (h + 15) (.inl (ca 0, 17, .inl (iN (va_up (mq 1) nf pr0))))) (h + 16) (.inl (ca 0, 17, .inl (iN (va_up (mq 2) nf a0))))) (h + 17) (.inl (ca 0, 17, .inl (iN (va_up (mq 3) nf b0))))) (h + 18) (.inl (ca 0, 17, .inl (iN (va_up (mq 4) nf c0))))
    refine lv_aload_n hx hb d_Mo_openFlow_67 rfl (lv_at hl 1 rfl) ?_
    refine gm_get (C := R_Mo) (T := F_Mo) (n := 44) hx hb htl i_Mo hown hK hP h_161 rfl 24 (by decide) (htl _ k_767) (fun _ h => h) rfl d_Mo_openFlow_68 ?_
    refine lv_iload hx hb d_Mo_openFlow_71 (lv_at hl 0 rfl) ?_
    refine lv_iload hx hb d_Mo_openFlow_73 (lv_at hl 7 rfl) ?_
    refine gz_iast hx hb hK hP hS 0 h_156 rfl (by omega) (by omega) d_Mo_openFlow_75 (fun H locs hP hS => ?_)
    have hP : gm_P D cls A N (gm_up (gm_up (gm_up (gm_up (gm_up (gm_up (gm_up M h (moO h (nI le) bp (nI nr) (nI wh) (nI tl) (nI ne) (nI (nf + 1)) (nI na) (nI an) (nI tm) (nI cn) (nI cs) (nI bd) (nI lt) (nI nt) fx fy)) (h + 14) (.inl (ca 0, 17, .inl (iN (va_up (mq 0) nf 1))))) (h + 15) (.inl (ca 0, 17, .inl (iN (va_up (mq 1) nf pr0))))) (h + 16) (.inl (ca 0, 17, .inl (iN (va_up (mq 2) nf a0))))) (h + 17) (.inl (ca 0, 17, .inl (iN (va_up (mq 3) nf b0))))) (h + 18) (.inl (ca 0, 17, .inl (iN (va_up (mq 4) nf c0))))) (h + 19) (.inl (ca 0, 17, .inl (iN (va_up (mq 5) nf d0))))) H := hP
    have h_167 := gm_pass (k := (h + 19)) (y := .inl (ca 0, 17, .inl (iN (va_up (mq 5) nf d0)))) h_157 (by omega)
    have h_168 := gm_pass (k := (h + 19)) (y := .inl (ca 0, 17, .inl (iN (va_up (mq 5) nf d0)))) h_158 (by omega)
    have h_169 := gm_pass (k := (h + 19)) (y := .inl (ca 0, 17, .inl (iN (va_up (mq 5) nf d0)))) h_159 (by omega)
    have h_170 := gm_pass (k := (h + 19)) (y := .inl (ca 0, 17, .inl (iN (va_up (mq 5) nf d0)))) h_160 (by omega)
    have h_171 := gm_pass (k := (h + 19)) (y := .inl (ca 0, 17, .inl (iN (va_up (mq 5) nf d0)))) h_161 (gm_ne h_161 h_156 (fun h => by cases h))
    have h_172 := gm_pass (k := (h + 19)) (y := .inl (ca 0, 17, .inl (iN (va_up (mq 5) nf d0)))) h_162 (by omega)
    have h_173 := gm_pass (k := (h + 19)) (y := .inl (ca 0, 17, .inl (iN (va_up (mq 5) nf d0)))) h_163 (by omega)
    have h_174 := gm_pass (k := (h + 19)) (y := .inl (ca 0, 17, .inl (iN (va_up (mq 5) nf d0)))) h_164 (by omega)
    have h_175 := gm_pass (k := (h + 19)) (y := .inl (ca 0, 17, .inl (iN (va_up (mq 5) nf d0)))) h_165 (by omega)
    have h_176 := gm_pass (k := (h + 19)) (y := .inl (ca 0, 17, .inl (iN (va_up (mq 5) nf d0)))) h_166 (by omega)
    have h_177 := gm_up_self (gm_up (gm_up (gm_up (gm_up (gm_up (gm_up M h (moO h (nI le) bp (nI nr) (nI wh) (nI tl) (nI ne) (nI (nf + 1)) (nI na) (nI an) (nI tm) (nI cn) (nI cs) (nI bd) (nI lt) (nI nt) fx fy)) (h + 14) (.inl (ca 0, 17, .inl (iN (va_up (mq 0) nf 1))))) (h + 15) (.inl (ca 0, 17, .inl (iN (va_up (mq 1) nf pr0))))) (h + 16) (.inl (ca 0, 17, .inl (iN (va_up (mq 2) nf a0))))) (h + 17) (.inl (ca 0, 17, .inl (iN (va_up (mq 3) nf b0))))) (h + 18) (.inl (ca 0, 17, .inl (iN (va_up (mq 4) nf c0))))) (h + 19) (.inl (ca 0, 17, .inl (iN (va_up (mq 5) nf d0))))
    refine lv_aload_n hx hb d_Mo_openFlow_76 rfl (lv_at hl 1 rfl) ?_
    refine gm_get (C := R_Mo) (T := F_Mo) (n := 44) hx hb htl i_Mo hown hK hP h_171 rfl 25 (by decide) (htl _ k_768) (fun _ h => h) rfl d_Mo_openFlow_77 ?_
    refine lv_iload hx hb d_Mo_openFlow_80 (lv_at hl 0 rfl) ?_
    refine lv_iload hx hb d_Mo_openFlow_82 (lv_at hl 8 rfl) ?_
    refine gz_iast hx hb hK hP hS 0 h_167 rfl (by omega) (by omega) d_Mo_openFlow_84 (fun H locs hP hS => ?_)
    have hP : gm_P D cls A N (gm_up (gm_up (gm_up (gm_up (gm_up (gm_up (gm_up (gm_up M h (moO h (nI le) bp (nI nr) (nI wh) (nI tl) (nI ne) (nI (nf + 1)) (nI na) (nI an) (nI tm) (nI cn) (nI cs) (nI bd) (nI lt) (nI nt) fx fy)) (h + 14) (.inl (ca 0, 17, .inl (iN (va_up (mq 0) nf 1))))) (h + 15) (.inl (ca 0, 17, .inl (iN (va_up (mq 1) nf pr0))))) (h + 16) (.inl (ca 0, 17, .inl (iN (va_up (mq 2) nf a0))))) (h + 17) (.inl (ca 0, 17, .inl (iN (va_up (mq 3) nf b0))))) (h + 18) (.inl (ca 0, 17, .inl (iN (va_up (mq 4) nf c0))))) (h + 19) (.inl (ca 0, 17, .inl (iN (va_up (mq 5) nf d0))))) (h + 20) (.inl (ca 0, 17, .inl (iN (va_up (mq 6) nf pub))))) H := hP
    have h_178 := gm_pass (k := (h + 20)) (y := .inl (ca 0, 17, .inl (iN (va_up (mq 6) nf pub)))) h_168 (by omega)
    have h_179 := gm_pass (k := (h + 20)) (y := .inl (ca 0, 17, .inl (iN (va_up (mq 6) nf pub)))) h_169 (by omega)
    have h_180 := gm_pass (k := (h + 20)) (y := .inl (ca 0, 17, .inl (iN (va_up (mq 6) nf pub)))) h_170 (by omega)
    have h_181 := gm_pass (k := (h + 20)) (y := .inl (ca 0, 17, .inl (iN (va_up (mq 6) nf pub)))) h_171 (gm_ne h_171 h_167 (fun h => by cases h))
    have h_182 := gm_pass (k := (h + 20)) (y := .inl (ca 0, 17, .inl (iN (va_up (mq 6) nf pub)))) h_172 (by omega)
    have h_183 := gm_pass (k := (h + 20)) (y := .inl (ca 0, 17, .inl (iN (va_up (mq 6) nf pub)))) h_173 (by omega)
    have h_184 := gm_pass (k := (h + 20)) (y := .inl (ca 0, 17, .inl (iN (va_up (mq 6) nf pub)))) h_174 (by omega)
    have h_185 := gm_pass (k := (h + 20)) (y := .inl (ca 0, 17, .inl (iN (va_up (mq 6) nf pub)))) h_175 (by omega)
    have h_186 := gm_pass (k := (h + 20)) (y := .inl (ca 0, 17, .inl (iN (va_up (mq 6) nf pub)))) h_176 (by omega)
    have h_187 := gm_pass (k := (h + 20)) (y := .inl (ca 0, 17, .inl (iN (va_up (mq 6) nf pub)))) h_177 (by omega)
    have h_188 := gm_up_self (gm_up (gm_up (gm_up (gm_up (gm_up (gm_up (gm_up M h (moO h (nI le) bp (nI nr) (nI wh) (nI tl) (nI ne) (nI (nf + 1)) (nI na) (nI an) (nI tm) (nI cn) (nI cs) (nI bd) (nI lt) (nI nt) fx fy)) (h + 14) (.inl (ca 0, 17, .inl (iN (va_up (mq 0) nf 1))))) (h + 15) (.inl (ca 0, 17, .inl (iN (va_up (mq 1) nf pr0))))) (h + 16) (.inl (ca 0, 17, .inl (iN (va_up (mq 2) nf a0))))) (h + 17) (.inl (ca 0, 17, .inl (iN (va_up (mq 3) nf b0))))) (h + 18) (.inl (ca 0, 17, .inl (iN (va_up (mq 4) nf c0))))) (h + 19) (.inl (ca 0, 17, .inl (iN (va_up (mq 5) nf d0))))) (h + 20) (.inl (ca 0, 17, .inl (iN (va_up (mq 6) nf pub))))
    refine lv_aload_n hx hb d_Mo_openFlow_85 rfl (lv_at hl 1 rfl) ?_
    refine gm_get (C := R_Mo) (T := F_Mo) (n := 44) hx hb htl i_Mo hown hK hP h_181 rfl 26 (by decide) (htl _ k_769) (fun _ h => h) rfl d_Mo_openFlow_86 ?_
    refine lv_iload hx hb d_Mo_openFlow_89 (lv_at hl 0 rfl) ?_
    refine lv_aload_n hx hb d_Mo_openFlow_91 rfl (lv_at hl 1 rfl) ?_
    refine gm_get (C := R_Mo) (T := F_Mo) (n := 44) hx hb htl i_Mo hown hK hP h_181 rfl 36 (by decide) (htl _ k_779) (fun _ h => h) rfl d_Mo_openFlow_92 ?_
    refine gz_iast hx hb hK hP hS 0 h_178 rfl (by omega) (by omega) d_Mo_openFlow_95 (fun H locs hP hS => ?_)
    have hP : gm_P D cls A N (gm_up (gm_up (gm_up (gm_up (gm_up (gm_up (gm_up (gm_up (gm_up M h (moO h (nI le) bp (nI nr) (nI wh) (nI tl) (nI ne) (nI (nf + 1)) (nI na) (nI an) (nI tm) (nI cn) (nI cs) (nI bd) (nI lt) (nI nt) fx fy)) (h + 14) (.inl (ca 0, 17, .inl (iN (va_up (mq 0) nf 1))))) (h + 15) (.inl (ca 0, 17, .inl (iN (va_up (mq 1) nf pr0))))) (h + 16) (.inl (ca 0, 17, .inl (iN (va_up (mq 2) nf a0))))) (h + 17) (.inl (ca 0, 17, .inl (iN (va_up (mq 3) nf b0))))) (h + 18) (.inl (ca 0, 17, .inl (iN (va_up (mq 4) nf c0))))) (h + 19) (.inl (ca 0, 17, .inl (iN (va_up (mq 5) nf d0))))) (h + 20) (.inl (ca 0, 17, .inl (iN (va_up (mq 6) nf pub))))) (h + 21) (.inl (ca 0, 17, .inl (iN (va_up (mq 7) nf tm))))) H := hP
    have h_189 := gm_pass (k := (h + 21)) (y := .inl (ca 0, 17, .inl (iN (va_up (mq 7) nf tm)))) h_179 (by omega)
    have h_190 := gm_pass (k := (h + 21)) (y := .inl (ca 0, 17, .inl (iN (va_up (mq 7) nf tm)))) h_180 (by omega)
    have h_191 := gm_pass (k := (h + 21)) (y := .inl (ca 0, 17, .inl (iN (va_up (mq 7) nf tm)))) h_181 (gm_ne h_181 h_178 (fun h => by cases h))
    have h_192 := gm_pass (k := (h + 21)) (y := .inl (ca 0, 17, .inl (iN (va_up (mq 7) nf tm)))) h_182 (by omega)
    have h_193 := gm_pass (k := (h + 21)) (y := .inl (ca 0, 17, .inl (iN (va_up (mq 7) nf tm)))) h_183 (by omega)
    have h_194 := gm_pass (k := (h + 21)) (y := .inl (ca 0, 17, .inl (iN (va_up (mq 7) nf tm)))) h_184 (by omega)
    have h_195 := gm_pass (k := (h + 21)) (y := .inl (ca 0, 17, .inl (iN (va_up (mq 7) nf tm)))) h_185 (by omega)
    have h_196 := gm_pass (k := (h + 21)) (y := .inl (ca 0, 17, .inl (iN (va_up (mq 7) nf tm)))) h_186 (by omega)
    have h_197 := gm_pass (k := (h + 21)) (y := .inl (ca 0, 17, .inl (iN (va_up (mq 7) nf tm)))) h_187 (by omega)
    have h_198 := gm_pass (k := (h + 21)) (y := .inl (ca 0, 17, .inl (iN (va_up (mq 7) nf tm)))) h_188 (by omega)
    have h_199 := gm_up_self (gm_up (gm_up (gm_up (gm_up (gm_up (gm_up (gm_up (gm_up M h (moO h (nI le) bp (nI nr) (nI wh) (nI tl) (nI ne) (nI (nf + 1)) (nI na) (nI an) (nI tm) (nI cn) (nI cs) (nI bd) (nI lt) (nI nt) fx fy)) (h + 14) (.inl (ca 0, 17, .inl (iN (va_up (mq 0) nf 1))))) (h + 15) (.inl (ca 0, 17, .inl (iN (va_up (mq 1) nf pr0))))) (h + 16) (.inl (ca 0, 17, .inl (iN (va_up (mq 2) nf a0))))) (h + 17) (.inl (ca 0, 17, .inl (iN (va_up (mq 3) nf b0))))) (h + 18) (.inl (ca 0, 17, .inl (iN (va_up (mq 4) nf c0))))) (h + 19) (.inl (ca 0, 17, .inl (iN (va_up (mq 5) nf d0))))) (h + 20) (.inl (ca 0, 17, .inl (iN (va_up (mq 6) nf pub))))) (h + 21) (.inl (ca 0, 17, .inl (iN (va_up (mq 7) nf tm))))
    refine lv_aload_n hx hb d_Mo_openFlow_96 rfl (lv_at hl 1 rfl) ?_
    refine gm_get (C := R_Mo) (T := F_Mo) (n := 44) hx hb htl i_Mo hown hK hP h_191 rfl 27 (by decide) (htl _ k_770) (fun _ h => h) rfl d_Mo_openFlow_97 ?_
    refine lv_iload hx hb d_Mo_openFlow_100 (lv_at hl 0 rfl) ?_
    refine lv_iload_n hx hb d_Mo_openFlow_102 rfl (lv_at hl 3 rfl) ?_
    refine gz_iast hx hb hK hP hS 0 h_189 rfl (by omega) (by omega) d_Mo_openFlow_103 (fun H locs hP hS => ?_)
    have hP : gm_P D cls A N (gm_up (gm_up (gm_up (gm_up (gm_up (gm_up (gm_up (gm_up (gm_up (gm_up M h (moO h (nI le) bp (nI nr) (nI wh) (nI tl) (nI ne) (nI (nf + 1)) (nI na) (nI an) (nI tm) (nI cn) (nI cs) (nI bd) (nI lt) (nI nt) fx fy)) (h + 14) (.inl (ca 0, 17, .inl (iN (va_up (mq 0) nf 1))))) (h + 15) (.inl (ca 0, 17, .inl (iN (va_up (mq 1) nf pr0))))) (h + 16) (.inl (ca 0, 17, .inl (iN (va_up (mq 2) nf a0))))) (h + 17) (.inl (ca 0, 17, .inl (iN (va_up (mq 3) nf b0))))) (h + 18) (.inl (ca 0, 17, .inl (iN (va_up (mq 4) nf c0))))) (h + 19) (.inl (ca 0, 17, .inl (iN (va_up (mq 5) nf d0))))) (h + 20) (.inl (ca 0, 17, .inl (iN (va_up (mq 6) nf pub))))) (h + 21) (.inl (ca 0, 17, .inl (iN (va_up (mq 7) nf tm))))) (h + 22) (.inl (ca 0, 17, .inl (iN (va_up (mq 8) nf sd))))) H := hP
    have h_200 := gm_pass (k := (h + 22)) (y := .inl (ca 0, 17, .inl (iN (va_up (mq 8) nf sd)))) h_190 (by omega)
    have h_201 := gm_pass (k := (h + 22)) (y := .inl (ca 0, 17, .inl (iN (va_up (mq 8) nf sd)))) h_191 (gm_ne h_191 h_189 (fun h => by cases h))
    have h_202 := gm_pass (k := (h + 22)) (y := .inl (ca 0, 17, .inl (iN (va_up (mq 8) nf sd)))) h_192 (by omega)
    have h_203 := gm_pass (k := (h + 22)) (y := .inl (ca 0, 17, .inl (iN (va_up (mq 8) nf sd)))) h_193 (by omega)
    have h_204 := gm_pass (k := (h + 22)) (y := .inl (ca 0, 17, .inl (iN (va_up (mq 8) nf sd)))) h_194 (by omega)
    have h_205 := gm_pass (k := (h + 22)) (y := .inl (ca 0, 17, .inl (iN (va_up (mq 8) nf sd)))) h_195 (by omega)
    have h_206 := gm_pass (k := (h + 22)) (y := .inl (ca 0, 17, .inl (iN (va_up (mq 8) nf sd)))) h_196 (by omega)
    have h_207 := gm_pass (k := (h + 22)) (y := .inl (ca 0, 17, .inl (iN (va_up (mq 8) nf sd)))) h_197 (by omega)
    have h_208 := gm_pass (k := (h + 22)) (y := .inl (ca 0, 17, .inl (iN (va_up (mq 8) nf sd)))) h_198 (by omega)
    have h_209 := gm_pass (k := (h + 22)) (y := .inl (ca 0, 17, .inl (iN (va_up (mq 8) nf sd)))) h_199 (by omega)
    have h_210 := gm_up_self (gm_up (gm_up (gm_up (gm_up (gm_up (gm_up (gm_up (gm_up (gm_up M h (moO h (nI le) bp (nI nr) (nI wh) (nI tl) (nI ne) (nI (nf + 1)) (nI na) (nI an) (nI tm) (nI cn) (nI cs) (nI bd) (nI lt) (nI nt) fx fy)) (h + 14) (.inl (ca 0, 17, .inl (iN (va_up (mq 0) nf 1))))) (h + 15) (.inl (ca 0, 17, .inl (iN (va_up (mq 1) nf pr0))))) (h + 16) (.inl (ca 0, 17, .inl (iN (va_up (mq 2) nf a0))))) (h + 17) (.inl (ca 0, 17, .inl (iN (va_up (mq 3) nf b0))))) (h + 18) (.inl (ca 0, 17, .inl (iN (va_up (mq 4) nf c0))))) (h + 19) (.inl (ca 0, 17, .inl (iN (va_up (mq 5) nf d0))))) (h + 20) (.inl (ca 0, 17, .inl (iN (va_up (mq 6) nf pub))))) (h + 21) (.inl (ca 0, 17, .inl (iN (va_up (mq 7) nf tm))))) (h + 22) (.inl (ca 0, 17, .inl (iN (va_up (mq 8) nf sd))))
    exact gc_vret hx hb hr hlk hP hS d_Mo_openFlow_104 ⟨rfl, mkQ (va_up (mq 0) nf 1) (va_up (mq 1) nf pr0) (va_up (mq 2) nf a0) (va_up (mq 3) nf b0) (va_up (mq 4) nf c0) (va_up (mq 5) nf d0) (va_up (mq 6) nf pub) (va_up (mq 7) nf tm) (va_up (mq 8) nf sd) (mq 9), relF_new hRF (by first | rw [if_pos (by assumption)] | rw [if_neg (by assumption)]) hab (by omega), h_201, h_202, h_203, h_204, h_205, h_206, h_207, h_208, h_209, h_210, h_200, (fun z q0 q1 q2 q3 q4 q5 q6 q7 q8 q9 q10 => (gm_up_ne _ _ q9).trans ((gm_up_ne _ _ q8).trans ((gm_up_ne _ _ q7).trans ((gm_up_ne _ _ q6).trans ((gm_up_ne _ _ q5).trans ((gm_up_ne _ _ q4).trans ((gm_up_ne _ _ q3).trans ((gm_up_ne _ _ q2).trans ((gm_up_ne _ _ q1).trans ((gm_up_ne _ _ q0).trans (rfl)))))))))))⟩
set_option maxHeartbeats 4000000 in
set_option maxRecDepth 100000 in
theorem c_Mo_freePort {h le nr tl ne nf na an tm cn cs bd lt nt wh : Nat} {bp fx fy : Int32} {me : Nat → Nat → Nat} {mq : Nat → Nat → Nat} {pp po pi : Nat → Nat} {fl : Nat → Nat → Nat} {pr0 : Nat} (eh : M h = some (moO h (nI le) bp (nI nr) (nI wh) (nI tl) (nI ne) (nI nf) (nI na) (nI an) (nI tm) (nI cn) (nI cs) (nI bd) (nI lt) (nI nt) fx fy)) (m10 : M (h + 10) = some (.inl (ca 0, 5, .inl (iN (me 0))))) (m11 : M (h + 11) = some (.inl (ca 0, 5, .inl (iN (me 1))))) (m12 : M (h + 12) = some (.inl (ca 0, 5, .inl (iN (me 2))))) (m13 : M (h + 13) = some (.inl (ca 0, 5, .inl (iN (me 3))))) (m14 : M (h + 14) = some (.inl (ca 0, 17, .inl (iN (mq 0))))) (m15 : M (h + 15) = some (.inl (ca 0, 17, .inl (iN (mq 1))))) (m16 : M (h + 16) = some (.inl (ca 0, 17, .inl (iN (mq 2))))) (m17 : M (h + 17) = some (.inl (ca 0, 17, .inl (iN (mq 3))))) (m18 : M (h + 18) = some (.inl (ca 0, 17, .inl (iN (mq 4))))) (m19 : M (h + 19) = some (.inl (ca 0, 17, .inl (iN (mq 5))))) (m20 : M (h + 20) = some (.inl (ca 0, 17, .inl (iN (mq 6))))) (m21 : M (h + 21) = some (.inl (ca 0, 17, .inl (iN (mq 7))))) (m22 : M (h + 22) = some (.inl (ca 0, 17, .inl (iN (mq 8))))) (m23 : M (h + 23) = some (.inl (ca 0, 17, .inl (iN (mq 9))))) (hRE : relE ne pp po pi me) (hne : ne ≤ 4) (hpp : ∀ k, pp k < 65536) (hpo : ∀ k, po k < 65536) (hpi : ∀ k, pi k < 65536) (hRF : relF nf fl mq) (hnf : nf ≤ 16) (hF : okF fl) (hpr0 : pr0 < 65536) (hpo9 : ∀ k, k < ne → po k ≤ 99) : gC l D ca A G y_Mo_freePort (.code y_Mo_freePort b_Mo_freePort 3 (some .int)) ({ frames := 1, cells := 0, slots := 0, locals := 23 }) N M [.ref h, .int (nI pr0)] gm_i (fun (r : Int32) (N1 : Nat) (M1 : gm_M) => N = N1 ∧ ((∃ (v : Nat) (u1 : Int32) (u2 : Int32), (freeF fl nf pr0 = some v) ∧ (v < 1000) ∧ M1 h = some (moO h (nI le) bp (nI nr) (nI wh) (nI tl) (nI ne) (nI nf) (nI na) (nI an) (nI tm) (nI cn) (nI cs) (nI bd) (nI lt) (nI nt) u1 u2) ∧ (∀ z, z ≠ h → M1 z = M z) ∧ nI v = r) ∨ (∃ (u1 : Int32) (u2 : Int32), (freeF fl nf pr0 = none) ∧ M1 h = some (moO h (nI le) bp (nI nr) (nI wh) (nI tl) (nI ne) (nI nf) (nI na) (nI an) (nI tm) (nI cn) (nI cs) (nI bd) (nI lt) (nI nt) u1 u2) ∧ (∀ z, z ≠ h → M1 z = M z) ∧ (-1) = r))) := by
  refine gm_body (by decide) (Nat.le_of_ble_eq_true rfl) (fun p e s m below meth c ls hx hb hr hts hown hlk hml hnm hP hK hN hX hS hl => ?_)
  have htl : ∀ w ∈ LW, w.before _ s = true := fun w h => hts w (List.mem_cons_of_mem _ h)
  have hown : s.vm.findClass "PacketGateModel" = some m.cls := hown
  have hl : lv_has ls 3 [(0, .ref h), (1, .int (nI pr0))] := hl
  generalize hQ : MQ below _ _ s _ _ A = Q
  refine lv_bipush (v := nI 100) hx hb d_Mo_freePort_0 (by decide) ?_
  refine lv_istore_n (lv' := [(2, .int (nI 100)), (0, .ref h), (1, .int (nI pr0))]) hx hb d_Mo_freePort_2 rfl hl (by decide) rfl (fun ls hl => ?_)
  have loop_3 : ∀ (fu : Nat) (p0 : Nat) (w1 : Int32) (w2 : Int32) (Mv : gm_M) (ls : Array Slot) (H : Heap) (locs : List Loc), (Mv h = some (moO h (nI le) bp (nI nr) (nI wh) (nI tl) (nI ne) (nI nf) (nI na) (nI an) (nI tm) (nI cn) (nI cs) (nI bd) (nI lt) (nI nt) w1 w2)) → (Mv (h + 10) = some (.inl (ca 0, 5, .inl (iN (me 0))))) → (Mv (h + 11) = some (.inl (ca 0, 5, .inl (iN (me 1))))) → (Mv (h + 12) = some (.inl (ca 0, 5, .inl (iN (me 2))))) → (Mv (h + 13) = some (.inl (ca 0, 5, .inl (iN (me 3))))) → (Mv (h + 14) = some (.inl (ca 0, 17, .inl (iN (mq 0))))) → (Mv (h + 15) = some (.inl (ca 0, 17, .inl (iN (mq 1))))) → (Mv (h + 16) = some (.inl (ca 0, 17, .inl (iN (mq 2))))) → (Mv (h + 17) = some (.inl (ca 0, 17, .inl (iN (mq 3))))) → (Mv (h + 18) = some (.inl (ca 0, 17, .inl (iN (mq 4))))) → (Mv (h + 19) = some (.inl (ca 0, 17, .inl (iN (mq 5))))) → (Mv (h + 20) = some (.inl (ca 0, 17, .inl (iN (mq 6))))) → (Mv (h + 21) = some (.inl (ca 0, 17, .inl (iN (mq 7))))) → (Mv (h + 22) = some (.inl (ca 0, 17, .inl (iN (mq 8))))) → (Mv (h + 23) = some (.inl (ca 0, 17, .inl (iN (mq 9))))) → (100 ≤ p0 ∧ p0 ≤ 112) → (∀ q, 100 ≤ q → q < p0 → used fl nf pr0 q) → (∀ z, z ≠ h → Mv z = M z) → (112 - p0) < fu → gm_P D cls A N Mv H → va_S A s.heap H locs → lv_has ls 3 [(0, .ref h), (1, .int (nI pr0)), (2, .int (nI p0))] → W p l e ({ frames := 1, cells := 0, slots := 0, locals := 23 }) s m ([.ref h, .int (nI pr0)] : List Value).toArray below meth c H locs (0) (0) Q (F0 m 3 ls []) := by
    intro fu
    induction fu with
    | zero => intro p0 w1 w2 Mv ls H locs ehv m10v m11v m12v m13v m14v m15v m16v m17v m18v m19v m20v m21v m22v m23v hp hus hfrv hk; exact absurd hk (Nat.not_lt_zero _)
    | succ fu ih_3 =>
      intro p0 w1 w2 Mv ls H locs ehv m10v m11v m12v m13v m14v m15v m16v m17v m18v m19v m20v m21v m22v m23v hp hus hfrv hk hP hS hl
      refine lv_iload_n hx hb d_Mo_freePort_3 rfl (lv_at hl 2 rfl) ?_
      refine lv_bipush (v := nI 112) hx hb d_Mo_freePort_4 (by decide) ?_
      refine ln_ge (tgt := 26) hx hb d_Mo_freePort_6 (by decide) (by omega) (by omega) (fun c_1 => ?_) (fun c_1 => ?_)
      · skip
        refine lv_iconst (v := (-1)) hx hb d_Mo_freePort_26 (by decide) ?_
        rw [← hQ]
        exact gc_iret hx hb hr hlk hP hS d_Mo_freePort_27 ⟨rfl, Or.inr ⟨w1, w2, freeF_none (fun q h1 h2 => hus q h1 (by omega)), ehv, (fun z q0 => (hfrv z q0).trans (rfl)), rfl⟩⟩
      · skip
        refine lv_aload_n hx hb d_Mo_freePort_9 rfl (lv_at hl 0 rfl) ?_
        refine lv_iload_n hx hb d_Mo_freePort_10 rfl (lv_at hl 1 rfl) ?_
        refine lv_iload_n hx hb d_Mo_freePort_11 rfl (lv_at hl 2 rfl) ?_
        refine gc_V (q := (R_Mo, F_Mo, 44)) (n := 2) [.int (nI pr0), .int (nI p0)] [] hx hb hml hown hts hK hN hX hP hS (c_Mo_mapped (pp := pp) (po := po) (pi := pi) (fl := fl) ehv m10v m11v m12v m13v m14v m15v m16v m17v m18v m19v m20v m21v m22v m23v hRE (by omega) hpp hpo hpi hRF (by omega) hF (by omega) (by omega)) rfl ehv k_932 k_934 ks_Mo_mapped k_10 k_935 (by decide +kernel) ⟨by decide, by decide⟩ rfl hl.1 rfl (Nat.le_of_ble_eq_true rfl) d_Mo_freePort_12 ⟨by decide, by decide⟩ (fun r N1 M_2 H locs hw hP hS => ?_)
        obtain ⟨rfl, hw⟩ := hw
        rcases hw with ⟨vv_3, c_4, c_5, rfl, rfl⟩ | ⟨c_6, rfl, rfl⟩
        · skip
          have hP : gm_P D cls A N (gm_up Mv h (moO h (nI le) bp (nI nr) (nI wh) (nI tl) (nI ne) (nI nf) (nI na) (nI an) (nI tm) (nI cn) (nI cs) (nI bd) (nI lt) (nI nt) (nI (vv_3 / 256)) (nI (vv_3 % 256)))) H := hP
          have h_7 := gm_pass (k := h) (y := moO h (nI le) bp (nI nr) (nI wh) (nI tl) (nI ne) (nI nf) (nI na) (nI an) (nI tm) (nI cn) (nI cs) (nI bd) (nI lt) (nI nt) (nI (vv_3 / 256)) (nI (vv_3 % 256))) m10v (gm_ne m10v ehv (fun h => by cases h))
          have h_8 := gm_pass (k := h) (y := moO h (nI le) bp (nI nr) (nI wh) (nI tl) (nI ne) (nI nf) (nI na) (nI an) (nI tm) (nI cn) (nI cs) (nI bd) (nI lt) (nI nt) (nI (vv_3 / 256)) (nI (vv_3 % 256))) m11v (gm_ne m11v ehv (fun h => by cases h))
          have h_9 := gm_pass (k := h) (y := moO h (nI le) bp (nI nr) (nI wh) (nI tl) (nI ne) (nI nf) (nI na) (nI an) (nI tm) (nI cn) (nI cs) (nI bd) (nI lt) (nI nt) (nI (vv_3 / 256)) (nI (vv_3 % 256))) m12v (gm_ne m12v ehv (fun h => by cases h))
          have h_10 := gm_pass (k := h) (y := moO h (nI le) bp (nI nr) (nI wh) (nI tl) (nI ne) (nI nf) (nI na) (nI an) (nI tm) (nI cn) (nI cs) (nI bd) (nI lt) (nI nt) (nI (vv_3 / 256)) (nI (vv_3 % 256))) m13v (gm_ne m13v ehv (fun h => by cases h))
          have h_11 := gm_pass (k := h) (y := moO h (nI le) bp (nI nr) (nI wh) (nI tl) (nI ne) (nI nf) (nI na) (nI an) (nI tm) (nI cn) (nI cs) (nI bd) (nI lt) (nI nt) (nI (vv_3 / 256)) (nI (vv_3 % 256))) m14v (gm_ne m14v ehv (fun h => by cases h))
          have h_12 := gm_pass (k := h) (y := moO h (nI le) bp (nI nr) (nI wh) (nI tl) (nI ne) (nI nf) (nI na) (nI an) (nI tm) (nI cn) (nI cs) (nI bd) (nI lt) (nI nt) (nI (vv_3 / 256)) (nI (vv_3 % 256))) m15v (gm_ne m15v ehv (fun h => by cases h))
          have h_13 := gm_pass (k := h) (y := moO h (nI le) bp (nI nr) (nI wh) (nI tl) (nI ne) (nI nf) (nI na) (nI an) (nI tm) (nI cn) (nI cs) (nI bd) (nI lt) (nI nt) (nI (vv_3 / 256)) (nI (vv_3 % 256))) m16v (gm_ne m16v ehv (fun h => by cases h))
          have h_14 := gm_pass (k := h) (y := moO h (nI le) bp (nI nr) (nI wh) (nI tl) (nI ne) (nI nf) (nI na) (nI an) (nI tm) (nI cn) (nI cs) (nI bd) (nI lt) (nI nt) (nI (vv_3 / 256)) (nI (vv_3 % 256))) m17v (gm_ne m17v ehv (fun h => by cases h))
          have h_15 := gm_pass (k := h) (y := moO h (nI le) bp (nI nr) (nI wh) (nI tl) (nI ne) (nI nf) (nI na) (nI an) (nI tm) (nI cn) (nI cs) (nI bd) (nI lt) (nI nt) (nI (vv_3 / 256)) (nI (vv_3 % 256))) m18v (gm_ne m18v ehv (fun h => by cases h))
          have h_16 := gm_pass (k := h) (y := moO h (nI le) bp (nI nr) (nI wh) (nI tl) (nI ne) (nI nf) (nI na) (nI an) (nI tm) (nI cn) (nI cs) (nI bd) (nI lt) (nI nt) (nI (vv_3 / 256)) (nI (vv_3 % 256))) m19v (gm_ne m19v ehv (fun h => by cases h))
          have h_17 := gm_pass (k := h) (y := moO h (nI le) bp (nI nr) (nI wh) (nI tl) (nI ne) (nI nf) (nI na) (nI an) (nI tm) (nI cn) (nI cs) (nI bd) (nI lt) (nI nt) (nI (vv_3 / 256)) (nI (vv_3 % 256))) m20v (gm_ne m20v ehv (fun h => by cases h))
          have h_18 := gm_pass (k := h) (y := moO h (nI le) bp (nI nr) (nI wh) (nI tl) (nI ne) (nI nf) (nI na) (nI an) (nI tm) (nI cn) (nI cs) (nI bd) (nI lt) (nI nt) (nI (vv_3 / 256)) (nI (vv_3 % 256))) m21v (gm_ne m21v ehv (fun h => by cases h))
          have h_19 := gm_pass (k := h) (y := moO h (nI le) bp (nI nr) (nI wh) (nI tl) (nI ne) (nI nf) (nI na) (nI an) (nI tm) (nI cn) (nI cs) (nI bd) (nI lt) (nI nt) (nI (vv_3 / 256)) (nI (vv_3 % 256))) m22v (gm_ne m22v ehv (fun h => by cases h))
          have h_20 := gm_pass (k := h) (y := moO h (nI le) bp (nI nr) (nI wh) (nI tl) (nI ne) (nI nf) (nI na) (nI an) (nI tm) (nI cn) (nI cs) (nI bd) (nI lt) (nI nt) (nI (vv_3 / 256)) (nI (vv_3 % 256))) m23v (gm_ne m23v ehv (fun h => by cases h))
          have h_21 := gm_up_self Mv h (moO h (nI le) bp (nI nr) (nI wh) (nI tl) (nI ne) (nI nf) (nI na) (nI an) (nI tm) (nI cn) (nI cs) (nI bd) (nI lt) (nI nt) (nI (vv_3 / 256)) (nI (vv_3 % 256)))
          refine W.eq (g2 := F0 m 15 ls [.int (nI 1)]) rfl ?_
          refine lv_if_ne (tgt := 20) hx hb d_Mo_freePort_15 (by decide) (fun _ => ?_) (fun q => absurd q (by decide))
          refine lv_iinc (v := nI (p0 + 1)) (lv' := [(2, .int (nI (p0 + 1))), (0, .ref h), (1, .int (nI pr0))]) hx hb d_Mo_freePort_20 hl (k := 2) rfl (nI_1 p0) (by decide) rfl (fun ls hl => ?_)
          refine lv_goto (tgt := 3) hx hb d_Mo_freePort_23 (by decide) ?_
          exact ih_3 (p0 + 1) (nI (vv_3 / 256)) (nI (vv_3 % 256)) _ ls _ _ h_21 h_7 h_8 h_9 h_10 h_11 h_12 h_13 h_14 h_15 h_16 h_17 h_18 h_19 h_20 (by omega) (fun q h1 h2 => by by_cases z : q = p0; subst z; exact used_mp c_4 hpo9 (by omega); exact hus q h1 (by omega)) (fun z q0 => (gm_up_ne _ _ q0).trans ((hfrv z q0).trans (rfl))) (by omega) hP hS (lv_sub hl [1, 2, 0] rfl)
        · skip
          refine W.eq (g2 := F0 m 15 ls [.int (nI 0)]) rfl ?_
          refine lv_if_ne (tgt := 20) hx hb d_Mo_freePort_15 (by decide) (fun q => absurd q (by decide)) (fun _ => ?_)
          refine lv_iload_n hx hb d_Mo_freePort_18 rfl (lv_at hl 2 rfl) ?_
          rw [← hQ]
          exact gc_iret hx hb hr hlk hP hS d_Mo_freePort_19 ⟨rfl, Or.inl ⟨_, w1, w2, freeF_some (by omega) (nused_mp c_6) hus, by omega, ehv, (fun z q0 => (hfrv z q0).trans (rfl)), rfl⟩⟩
  exact loop_3 (_ + 1) 100 fx fy _ ls _ _ eh m10 m11 m12 m13 m14 m15 m16 m17 m18 m19 m20 m21 m22 m23 (by omega) (fun q h1 h2 => absurd h2 (by omega)) (fun z _ => rfl) (Nat.lt_succ_self _) hP hS (lv_sub hl [1, 2, 0] rfl)
set_option maxHeartbeats 4000000 in
set_option maxRecDepth 100000 in
theorem c_Mo_header (x1 x2 x3 x4 : Int32) {h le nr tl ne nf na an tm cn cs bd lt nt wh : Nat} {bp fx fy : Int32} {hd : Nat → Nat} (eh : M h = some (moO h (nI le) bp (nI nr) (nI wh) (nI tl) (nI ne) (nI nf) (nI na) (nI an) (nI tm) (nI cn) (nI cs) (nI bd) (nI lt) (nI nt) fx fy)) (m26 : M (h + 26) = some (.inl (ca 0, 4, .inl (iN hd)))) : gC l D ca A G y_Mo_header (.code y_Mo_header b_Mo_header 5 (some .int)) ({ frames := 1, cells := 0, slots := 0, locals := 20 }) N M [.ref h, .int x1, .int x2, .int x3, .int x4] gm_i (fun (r : Int32) (N1 : Nat) (M1 : gm_M) => N = N1 ∧ (((¬ (inr x1 255 ∧ inr x2 255 ∧ inr x3 255 ∧ inr x4 255)) ∧ M = M1 ∧ (-1) = r) ∨ (∃ (n1 : Nat) (n2 : Nat) (n3 : Nat) (n4 : Nat) (hd1 : Nat → Nat), (x1 = nI n1 ∧ n1 ≤ 255) ∧ (x2 = nI n2 ∧ n2 ≤ 255) ∧ (x3 = nI n3 ∧ n3 ≤ 255) ∧ (x4 = nI n4 ∧ n4 ≤ 255) ∧ (hd1 0 = n1 ∧ hd1 1 = n2 ∧ hd1 2 = n3 ∧ hd1 3 = n4) ∧ M1 (h + 26) = some (.inl (ca 0, 4, .inl (iN hd1))) ∧ (∀ z, z ≠ (h + 26) → M1 z = M z) ∧ nI 0 = r))) := by
  refine gm_body (by decide) (Nat.le_of_ble_eq_true rfl) (fun p e s m below meth c ls hx hb hr hts hown hlk hml hnm hP hK hN hX hS hl => ?_)
  have htl : ∀ w ∈ LW, w.before _ s = true := fun w h => hts w (List.mem_cons_of_mem _ h)
  have hown : s.vm.findClass "PacketGateModel" = some m.cls := hown
  have hl : lv_has ls 5 [(0, .ref h), (1, .int x1), (2, .int x2), (3, .int x3), (4, .int x4)] := hl
  generalize hQ : MQ below _ _ s _ _ A = Q
  rcases Classical.em (inr x1 255 ∧ inr x2 255 ∧ inr x3 255 ∧ inr x4 255) with ⟨⟨n1, h1, rfl⟩, ⟨n2, h2, rfl⟩, ⟨n3, h3, rfl⟩, ⟨n4, h4, rfl⟩⟩ | hno
  · skip
    refine lv_iload_n hx hb d_Mo_header_0 rfl (lv_at hl 1 rfl) ?_
    refine gc_S (n := 1) [.int (nI n1)] [] hx hb hml hown hts hK hN hX hP hS (c_Mo_isByte (nI n1)) k_929 k_930 k_10 k_931 (by decide +kernel) ⟨by decide, by decide⟩ rfl hl.1 rfl (Nat.le_of_ble_eq_true rfl) d_Mo_header_1 ⟨by decide, by decide⟩ (fun r N1 M_1 H locs hw hP hS => ?_)
    obtain ⟨rfl, hw⟩ := hw
    rcases hw with ⟨c_2, rfl, rfl⟩ | ⟨c_3, rfl, rfl⟩
    · skip
      refine W.eq (g2 := F0 m 4 ls [.int (nI 1)]) rfl ?_
      refine lv_if_eq (tgt := 29) hx hb d_Mo_header_4 (by decide) (fun q => absurd q (by decide)) (fun _ => ?_)
      refine lv_iload_n hx hb d_Mo_header_7 rfl (lv_at hl 2 rfl) ?_
      refine gc_S (n := 1) [.int (nI n2)] [] hx hb hml hown hts hK hN hX hP hS (c_Mo_isByte (nI n2)) k_929 k_930 k_10 k_931 (by decide +kernel) ⟨by decide, by decide⟩ rfl hl.1 rfl (Nat.le_of_ble_eq_true rfl) d_Mo_header_8 ⟨by decide, by decide⟩ (fun r N1 M_4 H locs hw hP hS => ?_)
      obtain ⟨rfl, hw⟩ := hw
      rcases hw with ⟨c_5, rfl, rfl⟩ | ⟨c_6, rfl, rfl⟩
      · skip
        refine W.eq (g2 := F0 m 11 ls [.int (nI 1)]) rfl ?_
        refine lv_if_eq (tgt := 29) hx hb d_Mo_header_11 (by decide) (fun q => absurd q (by decide)) (fun _ => ?_)
        refine lv_iload_n hx hb d_Mo_header_14 rfl (lv_at hl 3 rfl) ?_
        refine gc_S (n := 1) [.int (nI n3)] [] hx hb hml hown hts hK hN hX hP hS (c_Mo_isByte (nI n3)) k_929 k_930 k_10 k_931 (by decide +kernel) ⟨by decide, by decide⟩ rfl hl.1 rfl (Nat.le_of_ble_eq_true rfl) d_Mo_header_15 ⟨by decide, by decide⟩ (fun r N1 M_7 H locs hw hP hS => ?_)
        obtain ⟨rfl, hw⟩ := hw
        rcases hw with ⟨c_8, rfl, rfl⟩ | ⟨c_9, rfl, rfl⟩
        · skip
          refine W.eq (g2 := F0 m 18 ls [.int (nI 1)]) rfl ?_
          refine lv_if_eq (tgt := 29) hx hb d_Mo_header_18 (by decide) (fun q => absurd q (by decide)) (fun _ => ?_)
          refine lv_iload hx hb d_Mo_header_21 (lv_at hl 4 rfl) ?_
          refine gc_S (n := 1) [.int (nI n4)] [] hx hb hml hown hts hK hN hX hP hS (c_Mo_isByte (nI n4)) k_929 k_930 k_10 k_931 (by decide +kernel) ⟨by decide, by decide⟩ rfl hl.1 rfl (Nat.le_of_ble_eq_true rfl) d_Mo_header_23 ⟨by decide, by decide⟩ (fun r N1 M_10 H locs hw hP hS => ?_)
          obtain ⟨rfl, hw⟩ := hw
          rcases hw with ⟨c_11, rfl, rfl⟩ | ⟨c_12, rfl, rfl⟩
          · skip
            refine W.eq (g2 := F0 m 26 ls [.int (nI 1)]) rfl ?_
            refine lv_if_ne (tgt := 31) hx hb d_Mo_header_26 (by decide) (fun _ => ?_) (fun q => absurd q (by decide))
            refine lv_aload_n hx hb d_Mo_header_31 rfl (lv_at hl 0 rfl) ?_
            refine gm_get (C := R_Mo) (T := F_Mo) (n := 44) hx hb htl i_Mo hown hK hP eh rfl 33 (by decide) (htl _ k_776) (fun _ h => h) rfl d_Mo_header_32 ?_
            refine lv_iconst (v := nI 0) hx hb d_Mo_header_35 (by decide) ?_
            refine lv_iload_n hx hb d_Mo_header_36 rfl (lv_at hl 1 rfl) ?_
            refine gz_iast hx hb hK hP hS 0 m26 rfl (by omega) (by omega) d_Mo_header_37 (fun H locs hP hS => ?_)
            have hP : gm_P D cls A N (gm_up M (h + 26) (.inl (ca 0, 4, .inl (iN (va_up hd 0 n1))))) H := hP
            have h_13 := gm_pass (k := (h + 26)) (y := .inl (ca 0, 4, .inl (iN (va_up hd 0 n1)))) eh (gm_ne eh m26 (fun h => by cases h))
            have h_14 := gm_up_self M (h + 26) (.inl (ca 0, 4, .inl (iN (va_up hd 0 n1))))
            refine lv_aload_n hx hb d_Mo_header_38 rfl (lv_at hl 0 rfl) ?_
            refine gm_get (C := R_Mo) (T := F_Mo) (n := 44) hx hb htl i_Mo hown hK hP h_13 rfl 33 (by decide) (htl _ k_776) (fun _ h => h) rfl d_Mo_header_39 ?_
            refine lv_iconst (v := nI 1) hx hb d_Mo_header_42 (by decide) ?_
            refine lv_iload_n hx hb d_Mo_header_43 rfl (lv_at hl 2 rfl) ?_
            refine gz_iast hx hb hK hP hS 0 h_14 rfl (by omega) (by omega) d_Mo_header_44 (fun H locs hP hS => ?_)
            have he_15 : gm_up (gm_up M (h + 26) (.inl (ca 0, 4, .inl (iN (va_up hd 0 n1))))) (h + 26) (.inl (ca 0, 4, .inl (iN (va_up (va_up hd 0 n1) 1 n2)))) = gm_up M (h + 26) (.inl (ca 0, 4, .inl (iN (va_up (va_up hd 0 n1) 1 n2)))) := gm_up_up _ _ _ _
            have hP := Eq.mp (congrArg (fun Z => gm_P D cls A N Z H) he_15) hP
            have h_16 := (congrFun he_15 _).symm.trans (gm_pass (k := (h + 26)) (y := .inl (ca 0, 4, .inl (iN (va_up (va_up hd 0 n1) 1 n2)))) h_13 (gm_ne h_13 h_14 (fun h => by cases h)))
            have h_17 := (congrFun he_15 _).symm.trans (gm_up_self (gm_up M (h + 26) (.inl (ca 0, 4, .inl (iN (va_up hd 0 n1))))) (h + 26) (.inl (ca 0, 4, .inl (iN (va_up (va_up hd 0 n1) 1 n2)))))
            refine lv_aload_n hx hb d_Mo_header_45 rfl (lv_at hl 0 rfl) ?_
            refine gm_get (C := R_Mo) (T := F_Mo) (n := 44) hx hb htl i_Mo hown hK hP h_16 rfl 33 (by decide) (htl _ k_776) (fun _ h => h) rfl d_Mo_header_46 ?_
            refine lv_iconst (v := nI 2) hx hb d_Mo_header_49 (by decide) ?_
            refine lv_iload_n hx hb d_Mo_header_50 rfl (lv_at hl 3 rfl) ?_
            refine gz_iast hx hb hK hP hS 0 h_17 rfl (by omega) (by omega) d_Mo_header_51 (fun H locs hP hS => ?_)
            have he_18 : gm_up (gm_up M (h + 26) (.inl (ca 0, 4, .inl (iN (va_up (va_up hd 0 n1) 1 n2))))) (h + 26) (.inl (ca 0, 4, .inl (iN (va_up (va_up (va_up hd 0 n1) 1 n2) 2 n3)))) = gm_up M (h + 26) (.inl (ca 0, 4, .inl (iN (va_up (va_up (va_up hd 0 n1) 1 n2) 2 n3)))) := gm_up_up _ _ _ _
            have hP := Eq.mp (congrArg (fun Z => gm_P D cls A N Z H) he_18) hP
            have h_19 := (congrFun he_18 _).symm.trans (gm_pass (k := (h + 26)) (y := .inl (ca 0, 4, .inl (iN (va_up (va_up (va_up hd 0 n1) 1 n2) 2 n3)))) h_16 (gm_ne h_16 h_17 (fun h => by cases h)))
            have h_20 := (congrFun he_18 _).symm.trans (gm_up_self (gm_up M (h + 26) (.inl (ca 0, 4, .inl (iN (va_up (va_up hd 0 n1) 1 n2))))) (h + 26) (.inl (ca 0, 4, .inl (iN (va_up (va_up (va_up hd 0 n1) 1 n2) 2 n3)))))
            refine lv_aload_n hx hb d_Mo_header_52 rfl (lv_at hl 0 rfl) ?_
            refine gm_get (C := R_Mo) (T := F_Mo) (n := 44) hx hb htl i_Mo hown hK hP h_19 rfl 33 (by decide) (htl _ k_776) (fun _ h => h) rfl d_Mo_header_53 ?_
            refine lv_iconst (v := nI 3) hx hb d_Mo_header_56 (by decide) ?_
            refine lv_iload hx hb d_Mo_header_57 (lv_at hl 4 rfl) ?_
            refine gz_iast hx hb hK hP hS 0 h_20 rfl (by omega) (by omega) d_Mo_header_59 (fun H locs hP hS => ?_)
            have he_21 : gm_up (gm_up M (h + 26) (.inl (ca 0, 4, .inl (iN (va_up (va_up (va_up hd 0 n1) 1 n2) 2 n3))))) (h + 26) (.inl (ca 0, 4, .inl (iN (va_up (va_up (va_up (va_up hd 0 n1) 1 n2) 2 n3) 3 n4)))) = gm_up M (h + 26) (.inl (ca 0, 4, .inl (iN (va_up (va_up (va_up (va_up hd 0 n1) 1 n2) 2 n3) 3 n4)))) := gm_up_up _ _ _ _
            have hP := Eq.mp (congrArg (fun Z => gm_P D cls A N Z H) he_21) hP
            have h_22 := (congrFun he_21 _).symm.trans (gm_pass (k := (h + 26)) (y := .inl (ca 0, 4, .inl (iN (va_up (va_up (va_up (va_up hd 0 n1) 1 n2) 2 n3) 3 n4)))) h_19 (gm_ne h_19 h_20 (fun h => by cases h)))
            have h_23 := (congrFun he_21 _).symm.trans (gm_up_self (gm_up M (h + 26) (.inl (ca 0, 4, .inl (iN (va_up (va_up (va_up hd 0 n1) 1 n2) 2 n3))))) (h + 26) (.inl (ca 0, 4, .inl (iN (va_up (va_up (va_up (va_up hd 0 n1) 1 n2) 2 n3) 3 n4)))))
            refine lv_iconst (v := nI 0) hx hb d_Mo_header_60 (by decide) ?_
            rw [← hQ]
            exact gc_iret hx hb hr hlk hP hS d_Mo_header_61 ⟨rfl, Or.inr ⟨n1, n2, n3, n4, (va_up (va_up (va_up (va_up hd 0 n1) 1 n2) 2 n3) 3 n4), ⟨rfl, h1⟩, ⟨rfl, h2⟩, ⟨rfl, h3⟩, ⟨rfl, h4⟩, ⟨rfl, rfl, rfl, rfl⟩, h_23, (fun z q0 => (gm_up_ne _ _ q0).trans (rfl)), rfl⟩⟩
          · skip
            refine W.eq (g2 := F0 m 26 ls [.int (nI 0)]) rfl ?_
            refine lv_if_ne (tgt := 31) hx hb d_Mo_header_26 (by decide) (fun q => absurd q (by decide)) (fun _ => ?_)
            exact absurd ⟨n4, by omega, rfl⟩ c_12
        · skip
          refine W.eq (g2 := F0 m 18 ls [.int (nI 0)]) rfl ?_
          refine lv_if_eq (tgt := 29) hx hb d_Mo_header_18 (by decide) (fun _ => ?_) (fun q => absurd q (by decide))
          exact absurd ⟨n3, by omega, rfl⟩ c_9
      · skip
        refine W.eq (g2 := F0 m 11 ls [.int (nI 0)]) rfl ?_
        refine lv_if_eq (tgt := 29) hx hb d_Mo_header_11 (by decide) (fun _ => ?_) (fun q => absurd q (by decide))
        exact absurd ⟨n2, by omega, rfl⟩ c_6
    · skip
      refine W.eq (g2 := F0 m 4 ls [.int (nI 0)]) rfl ?_
      refine lv_if_eq (tgt := 29) hx hb d_Mo_header_4 (by decide) (fun _ => ?_) (fun q => absurd q (by decide))
      exact absurd ⟨n1, by omega, rfl⟩ c_3
  · skip
    refine lv_iload_n hx hb d_Mo_header_0 rfl (lv_at hl 1 rfl) ?_
    refine gc_S (n := 1) [.int x1] [] hx hb hml hown hts hK hN hX hP hS (c_Mo_isByte x1) k_929 k_930 k_10 k_931 (by decide +kernel) ⟨by decide, by decide⟩ rfl hl.1 rfl (Nat.le_of_ble_eq_true rfl) d_Mo_header_1 ⟨by decide, by decide⟩ (fun r N1 M_24 H locs hw hP hS => ?_)
    obtain ⟨rfl, hw⟩ := hw
    rcases hw with ⟨c_25, rfl, rfl⟩ | ⟨c_26, rfl, rfl⟩
    · skip
      refine W.eq (g2 := F0 m 4 ls [.int (nI 1)]) rfl ?_
      refine lv_if_eq (tgt := 29) hx hb d_Mo_header_4 (by decide) (fun q => absurd q (by decide)) (fun _ => ?_)
      refine lv_iload_n hx hb d_Mo_header_7 rfl (lv_at hl 2 rfl) ?_
      refine gc_S (n := 1) [.int x2] [] hx hb hml hown hts hK hN hX hP hS (c_Mo_isByte x2) k_929 k_930 k_10 k_931 (by decide +kernel) ⟨by decide, by decide⟩ rfl hl.1 rfl (Nat.le_of_ble_eq_true rfl) d_Mo_header_8 ⟨by decide, by decide⟩ (fun r N1 M_27 H locs hw hP hS => ?_)
      obtain ⟨rfl, hw⟩ := hw
      rcases hw with ⟨c_28, rfl, rfl⟩ | ⟨c_29, rfl, rfl⟩
      · skip
        refine W.eq (g2 := F0 m 11 ls [.int (nI 1)]) rfl ?_
        refine lv_if_eq (tgt := 29) hx hb d_Mo_header_11 (by decide) (fun q => absurd q (by decide)) (fun _ => ?_)
        refine lv_iload_n hx hb d_Mo_header_14 rfl (lv_at hl 3 rfl) ?_
        refine gc_S (n := 1) [.int x3] [] hx hb hml hown hts hK hN hX hP hS (c_Mo_isByte x3) k_929 k_930 k_10 k_931 (by decide +kernel) ⟨by decide, by decide⟩ rfl hl.1 rfl (Nat.le_of_ble_eq_true rfl) d_Mo_header_15 ⟨by decide, by decide⟩ (fun r N1 M_30 H locs hw hP hS => ?_)
        obtain ⟨rfl, hw⟩ := hw
        rcases hw with ⟨c_31, rfl, rfl⟩ | ⟨c_32, rfl, rfl⟩
        · skip
          refine W.eq (g2 := F0 m 18 ls [.int (nI 1)]) rfl ?_
          refine lv_if_eq (tgt := 29) hx hb d_Mo_header_18 (by decide) (fun q => absurd q (by decide)) (fun _ => ?_)
          refine lv_iload hx hb d_Mo_header_21 (lv_at hl 4 rfl) ?_
          refine gc_S (n := 1) [.int x4] [] hx hb hml hown hts hK hN hX hP hS (c_Mo_isByte x4) k_929 k_930 k_10 k_931 (by decide +kernel) ⟨by decide, by decide⟩ rfl hl.1 rfl (Nat.le_of_ble_eq_true rfl) d_Mo_header_23 ⟨by decide, by decide⟩ (fun r N1 M_33 H locs hw hP hS => ?_)
          obtain ⟨rfl, hw⟩ := hw
          rcases hw with ⟨c_34, rfl, rfl⟩ | ⟨c_35, rfl, rfl⟩
          · skip
            refine W.eq (g2 := F0 m 26 ls [.int (nI 1)]) rfl ?_
            refine lv_if_ne (tgt := 31) hx hb d_Mo_header_26 (by decide) (fun _ => ?_) (fun q => absurd q (by decide))
            exact absurd ⟨c_25, c_28, c_31, c_34⟩ hno
          · skip
            refine W.eq (g2 := F0 m 26 ls [.int (nI 0)]) rfl ?_
            refine lv_if_ne (tgt := 31) hx hb d_Mo_header_26 (by decide) (fun q => absurd q (by decide)) (fun _ => ?_)
            refine lv_iconst (v := (-1)) hx hb d_Mo_header_29 (by decide) ?_
            rw [← hQ]
            exact gc_iret hx hb hr hlk hP hS d_Mo_header_30 ⟨rfl, Or.inl ⟨hno, rfl, rfl⟩⟩
        · skip
          refine W.eq (g2 := F0 m 18 ls [.int (nI 0)]) rfl ?_
          refine lv_if_eq (tgt := 29) hx hb d_Mo_header_18 (by decide) (fun _ => ?_) (fun q => absurd q (by decide))
          refine lv_iconst (v := (-1)) hx hb d_Mo_header_29 (by decide) ?_
          rw [← hQ]
          exact gc_iret hx hb hr hlk hP hS d_Mo_header_30 ⟨rfl, Or.inl ⟨hno, rfl, rfl⟩⟩
      · skip
        refine W.eq (g2 := F0 m 11 ls [.int (nI 0)]) rfl ?_
        refine lv_if_eq (tgt := 29) hx hb d_Mo_header_11 (by decide) (fun _ => ?_) (fun q => absurd q (by decide))
        refine lv_iconst (v := (-1)) hx hb d_Mo_header_29 (by decide) ?_
        rw [← hQ]
        exact gc_iret hx hb hr hlk hP hS d_Mo_header_30 ⟨rfl, Or.inl ⟨hno, rfl, rfl⟩⟩
    · skip
      refine W.eq (g2 := F0 m 4 ls [.int (nI 0)]) rfl ?_
      refine lv_if_eq (tgt := 29) hx hb d_Mo_header_4 (by decide) (fun _ => ?_) (fun q => absurd q (by decide))
      refine lv_iconst (v := (-1)) hx hb d_Mo_header_29 (by decide) ?_
      rw [← hQ]
      exact gc_iret hx hb hr hlk hP hS d_Mo_header_30 ⟨rfl, Or.inl ⟨hno, rfl, rfl⟩⟩
set_option maxHeartbeats 4000000 in
set_option maxRecDepth 100000 in
theorem c_Mo_stop (y : Int32) {h le nr tl ne nf na an tm cn cs bd lt nt wh : Nat} {bp fx fy : Int32} (eh : M h = some (moO h (nI le) bp (nI nr) (nI wh) (nI tl) (nI ne) (nI nf) (nI na) (nI an) (nI tm) (nI cn) (nI cs) (nI bd) (nI lt) (nI nt) fx fy)) : gC l D ca A G y_Mo_stop (.code y_Mo_stop b_Mo_stop 2 (some .int)) ({ frames := 0, cells := 0, slots := 0, locals := 0 }) N M [.ref h, .int y] gm_i (fun (r : Int32) (N1 : Nat) (M1 : gm_M) => N = N1 ∧ gm_up M h (moO h (nI le) bp (nI nr) (nI wh) (nI tl) (nI ne) (nI nf) (nI na) (nI an) (nI tm) (nI cn) (nI cs) (nI bd) (nI lt) (nI (nt + 1)) fx fy) = M1 ∧ y = r) := by
  refine gm_body (by decide) (Nat.le_of_ble_eq_true rfl) (fun p e s m below meth c ls hx hb hr hts hown hlk hml hnm hP hK hN hX hS hl => ?_)
  have htl : ∀ w ∈ LW, w.before _ s = true := fun w h => hts w (List.mem_cons_of_mem _ h)
  have hown : s.vm.findClass "PacketGateModel" = some m.cls := hown
  have hl : lv_has ls 2 [(0, .ref h), (1, .int y)] := hl
  refine lv_aload_n hx hb d_Mo_stop_0 rfl (lv_at hl 0 rfl) ?_
  refine lv_dup hx hb d_Mo_stop_1 rfl ?_
  refine gm_get (C := R_Mo) (T := F_Mo) (n := 44) hx hb htl i_Mo hown hK hP eh rfl 41 (by decide) (htl _ k_784) (fun _ h => h) rfl d_Mo_stop_2 ?_
  refine lv_iconst (v := nI 1) hx hb d_Mo_stop_5 (by decide) ?_
  refine lv_iadd hx hb d_Mo_stop_6 ?_
  rw [show (nI nt) + (nI 1) = nI (nt + 1) from nI_add _ _]
  refine gm_put (C := R_Mo) (T := F_Mo) (n := 44) (ty := .int) hx hb htl i_Mo t_Mo tk_Mo n_Mo hown hK hP hS eh rfl 41 (by decide) (htl _ k_784) (fun _ h => h) rfl (tk_Mo 41 (by decide)) rfl rfl (Nat.le_of_ble_eq_true rfl) d_Mo_stop_7 (fun H locs hP hS => ?_)
  have hP : gm_P D cls A N (gm_up M h (moO h (nI le) bp (nI nr) (nI wh) (nI tl) (nI ne) (nI nf) (nI na) (nI an) (nI tm) (nI cn) (nI cs) (nI bd) (nI lt) (nI (nt + 1)) fx fy)) H := hP
  have h_1 := gm_up_self M h (moO h (nI le) bp (nI nr) (nI wh) (nI tl) (nI ne) (nI nf) (nI na) (nI an) (nI tm) (nI cn) (nI cs) (nI bd) (nI lt) (nI (nt + 1)) fx fy)
  refine lv_iload_n hx hb d_Mo_stop_10 rfl (lv_at hl 1 rfl) ?_
  exact gc_iret hx hb hr hlk hP hS d_Mo_stop_11 ⟨rfl, rfl, rfl⟩
set_option maxHeartbeats 4000000 in
set_option maxRecDepth 100000 in
theorem c_Mo_emit (y : Int32) {h le nr tl ne nf na an tm cn cs bd lt nt wh : Nat} {bp fx fy : Int32} {em : Nat → Nat} {a0 b0 c0 d0 : Nat} (eh : M h = some (moO h (nI le) bp (nI nr) (nI wh) (nI tl) (nI ne) (nI nf) (nI na) (nI an) (nI tm) (nI cn) (nI cs) (nI bd) (nI lt) (nI nt) fx fy)) (m27 : M (h + 27) = some (.inl (ca 0, 4, .inl (iN em)))) : gC l D ca A G y_Mo_emit (.code y_Mo_emit b_Mo_emit 6 (some .int)) ({ frames := 0, cells := 0, slots := 0, locals := 0 }) N M [.ref h, .int y, .int (nI a0), .int (nI b0), .int (nI c0), .int (nI d0)] gm_i (fun (r : Int32) (N1 : Nat) (M1 : gm_M) => N = N1 ∧ gm_up (gm_up M (h + 27) (.inl (ca 0, 4, .inl (iN (eUp em a0 b0 c0 d0))))) h (moO h (nI le) bp (nI nr) (nI wh) (nI tl) (nI ne) (nI nf) (nI na) (nI 1) (nI tm) (nI cn) (nI cs) (nI bd) (nI (lt + 1)) (nI nt) fx fy) = M1 ∧ y = r) := by
  refine gm_body (by decide) (Nat.le_of_ble_eq_true rfl) (fun p e s m below meth c ls hx hb hr hts hown hlk hml hnm hP hK hN hX hS hl => ?_)
  have htl : ∀ w ∈ LW, w.before _ s = true := fun w h => hts w (List.mem_cons_of_mem _ h)
  have hown : s.vm.findClass "PacketGateModel" = some m.cls := hown
  have hl : lv_has ls 6 [(0, .ref h), (1, .int y), (2, .int (nI a0)), (3, .int (nI b0)), (4, .int (nI c0)), (5, .int (nI d0))] := hl
  refine lv_aload_n hx hb d_Mo_emit_0 rfl (lv_at hl 0 rfl) ?_
  refine gm_get (C := R_Mo) (T := F_Mo) (n := 44) hx hb htl i_Mo hown hK hP eh rfl 34 (by decide) (htl _ k_777) (fun _ h => h) rfl d_Mo_emit_1 ?_
  refine lv_iconst (v := nI 0) hx hb d_Mo_emit_4 (by decide) ?_
  refine lv_iload_n hx hb d_Mo_emit_5 rfl (lv_at hl 2 rfl) ?_
  refine gz_iast hx hb hK hP hS 0 m27 rfl (by omega) (by omega) d_Mo_emit_6 (fun H locs hP hS => ?_)
  have hP : gm_P D cls A N (gm_up M (h + 27) (.inl (ca 0, 4, .inl (iN (va_up em 0 a0))))) H := hP
  have h_1 := gm_pass (k := (h + 27)) (y := .inl (ca 0, 4, .inl (iN (va_up em 0 a0)))) eh (gm_ne eh m27 (fun h => by cases h))
  have h_2 := gm_up_self M (h + 27) (.inl (ca 0, 4, .inl (iN (va_up em 0 a0))))
  refine lv_aload_n hx hb d_Mo_emit_7 rfl (lv_at hl 0 rfl) ?_
  refine gm_get (C := R_Mo) (T := F_Mo) (n := 44) hx hb htl i_Mo hown hK hP h_1 rfl 34 (by decide) (htl _ k_777) (fun _ h => h) rfl d_Mo_emit_8 ?_
  refine lv_iconst (v := nI 1) hx hb d_Mo_emit_11 (by decide) ?_
  refine lv_iload_n hx hb d_Mo_emit_12 rfl (lv_at hl 3 rfl) ?_
  refine gz_iast hx hb hK hP hS 0 h_2 rfl (by omega) (by omega) d_Mo_emit_13 (fun H locs hP hS => ?_)
  have he_3 : gm_up (gm_up M (h + 27) (.inl (ca 0, 4, .inl (iN (va_up em 0 a0))))) (h + 27) (.inl (ca 0, 4, .inl (iN (va_up (va_up em 0 a0) 1 b0)))) = gm_up M (h + 27) (.inl (ca 0, 4, .inl (iN (va_up (va_up em 0 a0) 1 b0)))) := gm_up_up _ _ _ _
  have hP := Eq.mp (congrArg (fun Z => gm_P D cls A N Z H) he_3) hP
  have h_4 := (congrFun he_3 _).symm.trans (gm_pass (k := (h + 27)) (y := .inl (ca 0, 4, .inl (iN (va_up (va_up em 0 a0) 1 b0)))) h_1 (gm_ne h_1 h_2 (fun h => by cases h)))
  have h_5 := (congrFun he_3 _).symm.trans (gm_up_self (gm_up M (h + 27) (.inl (ca 0, 4, .inl (iN (va_up em 0 a0))))) (h + 27) (.inl (ca 0, 4, .inl (iN (va_up (va_up em 0 a0) 1 b0)))))
  refine lv_aload_n hx hb d_Mo_emit_14 rfl (lv_at hl 0 rfl) ?_
  refine gm_get (C := R_Mo) (T := F_Mo) (n := 44) hx hb htl i_Mo hown hK hP h_4 rfl 34 (by decide) (htl _ k_777) (fun _ h => h) rfl d_Mo_emit_15 ?_
  refine lv_iconst (v := nI 2) hx hb d_Mo_emit_18 (by decide) ?_
  refine lv_iload hx hb d_Mo_emit_19 (lv_at hl 4 rfl) ?_
  refine gz_iast hx hb hK hP hS 0 h_5 rfl (by omega) (by omega) d_Mo_emit_21 (fun H locs hP hS => ?_)
  have he_6 : gm_up (gm_up M (h + 27) (.inl (ca 0, 4, .inl (iN (va_up (va_up em 0 a0) 1 b0))))) (h + 27) (.inl (ca 0, 4, .inl (iN (va_up (va_up (va_up em 0 a0) 1 b0) 2 c0)))) = gm_up M (h + 27) (.inl (ca 0, 4, .inl (iN (va_up (va_up (va_up em 0 a0) 1 b0) 2 c0)))) := gm_up_up _ _ _ _
  have hP := Eq.mp (congrArg (fun Z => gm_P D cls A N Z H) he_6) hP
  have h_7 := (congrFun he_6 _).symm.trans (gm_pass (k := (h + 27)) (y := .inl (ca 0, 4, .inl (iN (va_up (va_up (va_up em 0 a0) 1 b0) 2 c0)))) h_4 (gm_ne h_4 h_5 (fun h => by cases h)))
  have h_8 := (congrFun he_6 _).symm.trans (gm_up_self (gm_up M (h + 27) (.inl (ca 0, 4, .inl (iN (va_up (va_up em 0 a0) 1 b0))))) (h + 27) (.inl (ca 0, 4, .inl (iN (va_up (va_up (va_up em 0 a0) 1 b0) 2 c0)))))
  refine lv_aload_n hx hb d_Mo_emit_22 rfl (lv_at hl 0 rfl) ?_
  refine gm_get (C := R_Mo) (T := F_Mo) (n := 44) hx hb htl i_Mo hown hK hP h_7 rfl 34 (by decide) (htl _ k_777) (fun _ h => h) rfl d_Mo_emit_23 ?_
  refine lv_iconst (v := nI 3) hx hb d_Mo_emit_26 (by decide) ?_
  refine lv_iload hx hb d_Mo_emit_27 (lv_at hl 5 rfl) ?_
  refine gz_iast hx hb hK hP hS 0 h_8 rfl (by omega) (by omega) d_Mo_emit_29 (fun H locs hP hS => ?_)
  have he_9 : gm_up (gm_up M (h + 27) (.inl (ca 0, 4, .inl (iN (va_up (va_up (va_up em 0 a0) 1 b0) 2 c0))))) (h + 27) (.inl (ca 0, 4, .inl (iN (va_up (va_up (va_up (va_up em 0 a0) 1 b0) 2 c0) 3 d0)))) = gm_up M (h + 27) (.inl (ca 0, 4, .inl (iN (va_up (va_up (va_up (va_up em 0 a0) 1 b0) 2 c0) 3 d0)))) := gm_up_up _ _ _ _
  have hP := Eq.mp (congrArg (fun Z => gm_P D cls A N Z H) he_9) hP
  have h_10 := (congrFun he_9 _).symm.trans (gm_pass (k := (h + 27)) (y := .inl (ca 0, 4, .inl (iN (va_up (va_up (va_up (va_up em 0 a0) 1 b0) 2 c0) 3 d0)))) h_7 (gm_ne h_7 h_8 (fun h => by cases h)))
  have h_11 := (congrFun he_9 _).symm.trans (gm_up_self (gm_up M (h + 27) (.inl (ca 0, 4, .inl (iN (va_up (va_up (va_up em 0 a0) 1 b0) 2 c0))))) (h + 27) (.inl (ca 0, 4, .inl (iN (va_up (va_up (va_up (va_up em 0 a0) 1 b0) 2 c0) 3 d0)))))
  refine lv_aload_n hx hb d_Mo_emit_30 rfl (lv_at hl 0 rfl) ?_
  refine lv_iconst (v := nI 1) hx hb d_Mo_emit_31 (by decide) ?_
  refine gm_put (C := R_Mo) (T := F_Mo) (n := 44) (ty := .boolean) hx hb htl i_Mo t_Mo tk_Mo n_Mo hown hK hP hS h_10 rfl 35 (by decide) (htl _ k_778) (fun _ h => h) rfl (tk_Mo 35 (by decide)) rfl rfl (Nat.le_of_ble_eq_true rfl) d_Mo_emit_32 (fun H locs hP hS => ?_)
  have hP : gm_P D cls A N (gm_up (gm_up M (h + 27) (.inl (ca 0, 4, .inl (iN (va_up (va_up (va_up (va_up em 0 a0) 1 b0) 2 c0) 3 d0))))) h (moO h (nI le) bp (nI nr) (nI wh) (nI tl) (nI ne) (nI nf) (nI na) (nI 1) (nI tm) (nI cn) (nI cs) (nI bd) (nI lt) (nI nt) fx fy)) H := hP
  have h_12 := gm_pass (k := h) (y := moO h (nI le) bp (nI nr) (nI wh) (nI tl) (nI ne) (nI nf) (nI na) (nI 1) (nI tm) (nI cn) (nI cs) (nI bd) (nI lt) (nI nt) fx fy) h_11 (gm_ne h_11 h_10 (fun h => by cases h))
  have h_13 := gm_up_self (gm_up M (h + 27) (.inl (ca 0, 4, .inl (iN (va_up (va_up (va_up (va_up em 0 a0) 1 b0) 2 c0) 3 d0))))) h (moO h (nI le) bp (nI nr) (nI wh) (nI tl) (nI ne) (nI nf) (nI na) (nI 1) (nI tm) (nI cn) (nI cs) (nI bd) (nI lt) (nI nt) fx fy)
  refine lv_aload_n hx hb d_Mo_emit_35 rfl (lv_at hl 0 rfl) ?_
  refine lv_dup hx hb d_Mo_emit_36 rfl ?_
  refine gm_get (C := R_Mo) (T := F_Mo) (n := 44) hx hb htl i_Mo hown hK hP h_13 rfl 40 (by decide) (htl _ k_783) (fun _ h => h) rfl d_Mo_emit_37 ?_
  refine lv_iconst (v := nI 1) hx hb d_Mo_emit_40 (by decide) ?_
  refine lv_iadd hx hb d_Mo_emit_41 ?_
  rw [show (nI lt) + (nI 1) = nI (lt + 1) from nI_add _ _]
  refine gm_put (C := R_Mo) (T := F_Mo) (n := 44) (ty := .int) hx hb htl i_Mo t_Mo tk_Mo n_Mo hown hK hP hS h_13 rfl 40 (by decide) (htl _ k_783) (fun _ h => h) rfl (tk_Mo 40 (by decide)) rfl rfl (Nat.le_of_ble_eq_true rfl) d_Mo_emit_42 (fun H locs hP hS => ?_)
  have he_14 : gm_up (gm_up (gm_up M (h + 27) (.inl (ca 0, 4, .inl (iN (va_up (va_up (va_up (va_up em 0 a0) 1 b0) 2 c0) 3 d0))))) h (moO h (nI le) bp (nI nr) (nI wh) (nI tl) (nI ne) (nI nf) (nI na) (nI 1) (nI tm) (nI cn) (nI cs) (nI bd) (nI lt) (nI nt) fx fy)) h (moO h (nI le) bp (nI nr) (nI wh) (nI tl) (nI ne) (nI nf) (nI na) (nI 1) (nI tm) (nI cn) (nI cs) (nI bd) (nI (lt + 1)) (nI nt) fx fy) = gm_up (gm_up M (h + 27) (.inl (ca 0, 4, .inl (iN (va_up (va_up (va_up (va_up em 0 a0) 1 b0) 2 c0) 3 d0))))) h (moO h (nI le) bp (nI nr) (nI wh) (nI tl) (nI ne) (nI nf) (nI na) (nI 1) (nI tm) (nI cn) (nI cs) (nI bd) (nI (lt + 1)) (nI nt) fx fy) := gm_up_up _ _ _ _
  have hP := Eq.mp (congrArg (fun Z => gm_P D cls A N Z H) he_14) hP
  have h_15 := (congrFun he_14 _).symm.trans (gm_pass (k := h) (y := moO h (nI le) bp (nI nr) (nI wh) (nI tl) (nI ne) (nI nf) (nI na) (nI 1) (nI tm) (nI cn) (nI cs) (nI bd) (nI (lt + 1)) (nI nt) fx fy) h_12 (gm_ne h_12 h_13 (fun h => by cases h)))
  have h_16 := (congrFun he_14 _).symm.trans (gm_up_self (gm_up (gm_up M (h + 27) (.inl (ca 0, 4, .inl (iN (va_up (va_up (va_up (va_up em 0 a0) 1 b0) 2 c0) 3 d0))))) h (moO h (nI le) bp (nI nr) (nI wh) (nI tl) (nI ne) (nI nf) (nI na) (nI 1) (nI tm) (nI cn) (nI cs) (nI bd) (nI lt) (nI nt) fx fy)) h (moO h (nI le) bp (nI nr) (nI wh) (nI tl) (nI ne) (nI nf) (nI na) (nI 1) (nI tm) (nI cn) (nI cs) (nI bd) (nI (lt + 1)) (nI nt) fx fy))
  refine lv_iload_n hx hb d_Mo_emit_45 rfl (lv_at hl 1 rfl) ?_
  exact gc_iret hx hb hr hlk hP hS d_Mo_emit_46 ⟨rfl, rfl, rfl⟩
set_option maxHeartbeats 4000000 in
set_option maxRecDepth 100000 in
theorem c_Mo_rekey {h le nr tl ne nf na an tm cn cs bd lt nt wh : Nat} {bp fx fy : Int32} (eh : M h = some (moO h (nI le) bp (nI nr) (nI wh) (nI tl) (nI ne) (nI nf) (nI na) (nI an) (nI tm) (nI cn) (nI cs) (nI bd) (nI lt) (nI nt) fx fy)) : gC l D ca A G y_Mo_rekey (.code y_Mo_rekey b_Mo_rekey 1 (some .int)) ({ frames := 0, cells := 0, slots := 0, locals := 0 }) N M [.ref h] gm_i (fun (r : Int32) (N1 : Nat) (M1 : gm_M) => N = N1 ∧ gm_up M h (moO h (nI le) bp (nI nr) (nI wh) (nI tl) (nI ne) (nI nf) (nI na) (nI an) (nI tm) (nI (cn + 1)) (nI 0) (nI (tm + 20)) (nI lt) (nI nt) fx fy) = M1 ∧ nI (cn + 1) = r) := by
  refine gm_body (by decide) (Nat.le_of_ble_eq_true rfl) (fun p e s m below meth c ls hx hb hr hts hown hlk hml hnm hP hK hN hX hS hl => ?_)
  have htl : ∀ w ∈ LW, w.before _ s = true := fun w h => hts w (List.mem_cons_of_mem _ h)
  have hown : s.vm.findClass "PacketGateModel" = some m.cls := hown
  have hl : lv_has ls 1 [(0, .ref h)] := hl
  refine lv_aload_n hx hb d_Mo_rekey_0 rfl (lv_at hl 0 rfl) ?_
  refine lv_aload_n hx hb d_Mo_rekey_1 rfl (lv_at hl 0 rfl) ?_
  refine gm_get (C := R_Mo) (T := F_Mo) (n := 44) hx hb htl i_Mo hown hK hP eh rfl 36 (by decide) (htl _ k_779) (fun _ h => h) rfl d_Mo_rekey_2 ?_
  refine lv_bipush (v := nI 20) hx hb d_Mo_rekey_5 (by decide) ?_
  refine lv_iadd hx hb d_Mo_rekey_7 ?_
  rw [show (nI tm) + (nI 20) = nI (tm + 20) from nI_add _ _]
  refine gm_put (C := R_Mo) (T := F_Mo) (n := 44) (ty := .int) hx hb htl i_Mo t_Mo tk_Mo n_Mo hown hK hP hS eh rfl 39 (by decide) (htl _ k_782) (fun _ h => h) rfl (tk_Mo 39 (by decide)) rfl rfl (Nat.le_of_ble_eq_true rfl) d_Mo_rekey_8 (fun H locs hP hS => ?_)
  have hP : gm_P D cls A N (gm_up M h (moO h (nI le) bp (nI nr) (nI wh) (nI tl) (nI ne) (nI nf) (nI na) (nI an) (nI tm) (nI cn) (nI cs) (nI (tm + 20)) (nI lt) (nI nt) fx fy)) H := hP
  have h_1 := gm_up_self M h (moO h (nI le) bp (nI nr) (nI wh) (nI tl) (nI ne) (nI nf) (nI na) (nI an) (nI tm) (nI cn) (nI cs) (nI (tm + 20)) (nI lt) (nI nt) fx fy)
  refine lv_aload_n hx hb d_Mo_rekey_11 rfl (lv_at hl 0 rfl) ?_
  refine lv_dup hx hb d_Mo_rekey_12 rfl ?_
  refine gm_get (C := R_Mo) (T := F_Mo) (n := 44) hx hb htl i_Mo hown hK hP h_1 rfl 37 (by decide) (htl _ k_780) (fun _ h => h) rfl d_Mo_rekey_13 ?_
  refine lv_iconst (v := nI 1) hx hb d_Mo_rekey_16 (by decide) ?_
  refine lv_iadd hx hb d_Mo_rekey_17 ?_
  rw [show (nI cn) + (nI 1) = nI (cn + 1) from nI_add _ _]
  refine gm_put (C := R_Mo) (T := F_Mo) (n := 44) (ty := .int) hx hb htl i_Mo t_Mo tk_Mo n_Mo hown hK hP hS h_1 rfl 37 (by decide) (htl _ k_780) (fun _ h => h) rfl (tk_Mo 37 (by decide)) rfl rfl (Nat.le_of_ble_eq_true rfl) d_Mo_rekey_18 (fun H locs hP hS => ?_)
  have he_2 : gm_up (gm_up M h (moO h (nI le) bp (nI nr) (nI wh) (nI tl) (nI ne) (nI nf) (nI na) (nI an) (nI tm) (nI cn) (nI cs) (nI (tm + 20)) (nI lt) (nI nt) fx fy)) h (moO h (nI le) bp (nI nr) (nI wh) (nI tl) (nI ne) (nI nf) (nI na) (nI an) (nI tm) (nI (cn + 1)) (nI cs) (nI (tm + 20)) (nI lt) (nI nt) fx fy) = gm_up M h (moO h (nI le) bp (nI nr) (nI wh) (nI tl) (nI ne) (nI nf) (nI na) (nI an) (nI tm) (nI (cn + 1)) (nI cs) (nI (tm + 20)) (nI lt) (nI nt) fx fy) := gm_up_up _ _ _ _
  have hP := Eq.mp (congrArg (fun Z => gm_P D cls A N Z H) he_2) hP
  have h_3 := (congrFun he_2 _).symm.trans (gm_up_self (gm_up M h (moO h (nI le) bp (nI nr) (nI wh) (nI tl) (nI ne) (nI nf) (nI na) (nI an) (nI tm) (nI cn) (nI cs) (nI (tm + 20)) (nI lt) (nI nt) fx fy)) h (moO h (nI le) bp (nI nr) (nI wh) (nI tl) (nI ne) (nI nf) (nI na) (nI an) (nI tm) (nI (cn + 1)) (nI cs) (nI (tm + 20)) (nI lt) (nI nt) fx fy))
  refine lv_aload_n hx hb d_Mo_rekey_21 rfl (lv_at hl 0 rfl) ?_
  refine lv_iconst (v := nI 0) hx hb d_Mo_rekey_22 (by decide) ?_
  refine gm_put (C := R_Mo) (T := F_Mo) (n := 44) (ty := .int) hx hb htl i_Mo t_Mo tk_Mo n_Mo hown hK hP hS h_3 rfl 38 (by decide) (htl _ k_781) (fun _ h => h) rfl (tk_Mo 38 (by decide)) rfl rfl (Nat.le_of_ble_eq_true rfl) d_Mo_rekey_23 (fun H locs hP hS => ?_)
  have he_4 : gm_up (gm_up M h (moO h (nI le) bp (nI nr) (nI wh) (nI tl) (nI ne) (nI nf) (nI na) (nI an) (nI tm) (nI (cn + 1)) (nI cs) (nI (tm + 20)) (nI lt) (nI nt) fx fy)) h (moO h (nI le) bp (nI nr) (nI wh) (nI tl) (nI ne) (nI nf) (nI na) (nI an) (nI tm) (nI (cn + 1)) (nI 0) (nI (tm + 20)) (nI lt) (nI nt) fx fy) = gm_up M h (moO h (nI le) bp (nI nr) (nI wh) (nI tl) (nI ne) (nI nf) (nI na) (nI an) (nI tm) (nI (cn + 1)) (nI 0) (nI (tm + 20)) (nI lt) (nI nt) fx fy) := gm_up_up _ _ _ _
  have hP := Eq.mp (congrArg (fun Z => gm_P D cls A N Z H) he_4) hP
  have h_5 := (congrFun he_4 _).symm.trans (gm_up_self (gm_up M h (moO h (nI le) bp (nI nr) (nI wh) (nI tl) (nI ne) (nI nf) (nI na) (nI an) (nI tm) (nI (cn + 1)) (nI cs) (nI (tm + 20)) (nI lt) (nI nt) fx fy)) h (moO h (nI le) bp (nI nr) (nI wh) (nI tl) (nI ne) (nI nf) (nI na) (nI an) (nI tm) (nI (cn + 1)) (nI 0) (nI (tm + 20)) (nI lt) (nI nt) fx fy))
  refine lv_aload_n hx hb d_Mo_rekey_26 rfl (lv_at hl 0 rfl) ?_
  refine gm_get (C := R_Mo) (T := F_Mo) (n := 44) hx hb htl i_Mo hown hK hP h_5 rfl 37 (by decide) (htl _ k_780) (fun _ h => h) rfl d_Mo_rekey_27 ?_
  exact gc_iret hx hb hr hlk hP hS d_Mo_rekey_30 ⟨rfl, rfl, rfl⟩
set_option maxHeartbeats 4000000 in
set_option maxRecDepth 100000 in
theorem c_Mo_limit {s0 : Nat} (hs : 1 ≤ s0 ∧ s0 ≤ 7) : gC l D ca A G y_Mo_limit (.code y_Mo_limit b_Mo_limit 1 (some .int)) ({ frames := 0, cells := 0, slots := 0, locals := 0 }) N M [.int (nI s0)] gm_i (fun (r : Int32) (N1 : Nat) (M1 : gm_M) => N = N1 ∧ M = M1 ∧ nI (limN s0) = r) := by
  refine gm_body (by decide) (Nat.le_of_ble_eq_true rfl) (fun p e s m below meth c ls hx hb hr hts hown hlk hml hnm hP hK hN hX hS hl => ?_)
  have htl : ∀ w ∈ LW, w.before _ s = true := fun w h => hts w (List.mem_cons_of_mem _ h)
  have hown : s.vm.findClass "PacketGateModel" = some m.cls := hown
  have hl : lv_has ls 1 [(0, .int (nI s0))] := hl
  refine lv_iload_n hx hb d_Mo_limit_0 rfl (lv_at hl 0 rfl) ?_
  refine lv_iconst (v := nI 3) hx hb d_Mo_limit_1 (by decide) ?_
  refine ln_ne (tgt := 8) hx hb d_Mo_limit_2 (by decide) (by omega) (by omega) (fun c_1 => ?_) (fun c_1 => ?_)
  · skip
    refine lv_iload_n hx hb d_Mo_limit_8 rfl (lv_at hl 0 rfl) ?_
    refine lv_iconst (v := nI 4) hx hb d_Mo_limit_9 (by decide) ?_
    refine ln_eq (tgt := 19) hx hb d_Mo_limit_10 (by decide) (by omega) (by omega) (fun c_2 => ?_) (fun c_2 => ?_)
    · skip
      refine lv_bipush (v := nI 30) hx hb d_Mo_limit_19 (by decide) ?_
      exact gc_iret hx hb hr hlk hP hS d_Mo_limit_21 ⟨rfl, rfl, congrArg nI (by rcases (show s0 = 1 ∨ s0 = 2 ∨ s0 = 3 ∨ s0 = 4 ∨ s0 = 5 ∨ s0 = 6 ∨ s0 = 7 by omega) with rfl | rfl | rfl | rfl | rfl | rfl | rfl <;> first | rfl | omega)⟩
    · skip
      refine lv_iload_n hx hb d_Mo_limit_13 rfl (lv_at hl 0 rfl) ?_
      refine lv_bipush (v := nI 7) hx hb d_Mo_limit_14 (by decide) ?_
      refine ln_ne (tgt := 22) hx hb d_Mo_limit_16 (by decide) (by omega) (by omega) (fun c_3 => ?_) (fun c_3 => ?_)
      · skip
        refine lv_iload_n hx hb d_Mo_limit_22 rfl (lv_at hl 0 rfl) ?_
        refine lv_iconst (v := nI 5) hx hb d_Mo_limit_23 (by decide) ?_
        refine ln_ne (tgt := 31) hx hb d_Mo_limit_24 (by decide) (by omega) (by omega) (fun c_4 => ?_) (fun c_4 => ?_)
        · skip
          refine lv_bipush (v := nI 10) hx hb d_Mo_limit_31 (by decide) ?_
          exact gc_iret hx hb hr hlk hP hS d_Mo_limit_33 ⟨rfl, rfl, congrArg nI (by rcases (show s0 = 1 ∨ s0 = 2 ∨ s0 = 3 ∨ s0 = 4 ∨ s0 = 5 ∨ s0 = 6 ∨ s0 = 7 by omega) with rfl | rfl | rfl | rfl | rfl | rfl | rfl <;> first | rfl | omega)⟩
        · skip
          refine lv_iconst (v := nI 5) hx hb d_Mo_limit_27 (by decide) ?_
          refine lv_goto (tgt := 33) hx hb d_Mo_limit_28 (by decide) ?_
          exact gc_iret hx hb hr hlk hP hS d_Mo_limit_33 ⟨rfl, rfl, congrArg nI (by rcases (show s0 = 1 ∨ s0 = 2 ∨ s0 = 3 ∨ s0 = 4 ∨ s0 = 5 ∨ s0 = 6 ∨ s0 = 7 by omega) with rfl | rfl | rfl | rfl | rfl | rfl | rfl <;> first | rfl | omega)⟩
      · skip
        refine lv_bipush (v := nI 30) hx hb d_Mo_limit_19 (by decide) ?_
        exact gc_iret hx hb hr hlk hP hS d_Mo_limit_21 ⟨rfl, rfl, congrArg nI (by rcases (show s0 = 1 ∨ s0 = 2 ∨ s0 = 3 ∨ s0 = 4 ∨ s0 = 5 ∨ s0 = 6 ∨ s0 = 7 by omega) with rfl | rfl | rfl | rfl | rfl | rfl | rfl <;> first | rfl | omega)⟩
  · skip
    refine lv_bipush (v := nI 60) hx hb d_Mo_limit_5 (by decide) ?_
    exact gc_iret hx hb hr hlk hP hS d_Mo_limit_7 ⟨rfl, rfl, congrArg nI (by rcases (show s0 = 1 ∨ s0 = 2 ∨ s0 = 3 ∨ s0 = 4 ∨ s0 = 5 ∨ s0 = 6 ∨ s0 = 7 by omega) with rfl | rfl | rfl | rfl | rfl | rfl | rfl <;> first | rfl | omega)⟩
set_option maxHeartbeats 4000000 in
set_option maxRecDepth 100000 in
theorem c_Mo_tick (y : Int32) {h le nr tl ne nf na an tm cn cs bd lt nt wh : Nat} {bp fx fy : Int32} {mq : Nat → Nat → Nat} {fl : Nat → Nat → Nat} (eh : M h = some (moO h (nI le) bp (nI nr) (nI wh) (nI tl) (nI ne) (nI nf) (nI na) (nI an) (nI tm) (nI cn) (nI cs) (nI bd) (nI lt) (nI nt) fx fy)) (m14 : M (h + 14) = some (.inl (ca 0, 17, .inl (iN (mq 0))))) (m15 : M (h + 15) = some (.inl (ca 0, 17, .inl (iN (mq 1))))) (m16 : M (h + 16) = some (.inl (ca 0, 17, .inl (iN (mq 2))))) (m17 : M (h + 17) = some (.inl (ca 0, 17, .inl (iN (mq 3))))) (m18 : M (h + 18) = some (.inl (ca 0, 17, .inl (iN (mq 4))))) (m19 : M (h + 19) = some (.inl (ca 0, 17, .inl (iN (mq 5))))) (m20 : M (h + 20) = some (.inl (ca 0, 17, .inl (iN (mq 6))))) (m21 : M (h + 21) = some (.inl (ca 0, 17, .inl (iN (mq 7))))) (m22 : M (h + 22) = some (.inl (ca 0, 17, .inl (iN (mq 8))))) (m23 : M (h + 23) = some (.inl (ca 0, 17, .inl (iN (mq 9))))) (hRF : relF nf fl mq) (hnf : nf ≤ 16) (hF : okF fl) (htm : tm < 600000) (hls : ∀ i, i < nf → fl i 5 ≤ tm ∧ 1 ≤ fl i 4) : gC l D ca A G y_Mo_tick (.code y_Mo_tick b_Mo_tick 3 (some .int)) ({ frames := 1, cells := 0, slots := 0, locals := 22 }) N M [.ref h, .int y] gm_i (fun (r : Int32) (N1 : Nat) (M1 : gm_M) => N = N1 ∧ (((¬ ∃ k : Nat, k < 100 ∧ y = nI (k + 1)) ∧ M = M1 ∧ (-1) = r) ∨ (∃ (k : Nat) (fl1 : Nat → Nat → Nat) (n1 : Nat) (mq1 : Nat → Nat → Nat), (k < 100 ∧ y = nI (k + 1)) ∧ (sweep (tP (tm + (k + 1))) nf fl nf = (fl1, n1)) ∧ (n1 ≤ nf) ∧ (relF n1 fl1 mq1) ∧ (okF fl1) ∧ M1 h = some (moO h (nI le) bp (nI nr) (nI wh) (nI tl) (nI ne) (nI n1) (nI na) (nI an) (nI (tm + (k + 1))) (nI cn) (nI cs) (nI bd) (nI lt) (nI nt) fx fy) ∧ M1 (h + 14) = some (.inl (ca 0, 17, .inl (iN (mq1 0)))) ∧ M1 (h + 15) = some (.inl (ca 0, 17, .inl (iN (mq1 1)))) ∧ M1 (h + 16) = some (.inl (ca 0, 17, .inl (iN (mq1 2)))) ∧ M1 (h + 17) = some (.inl (ca 0, 17, .inl (iN (mq1 3)))) ∧ M1 (h + 18) = some (.inl (ca 0, 17, .inl (iN (mq1 4)))) ∧ M1 (h + 19) = some (.inl (ca 0, 17, .inl (iN (mq1 5)))) ∧ M1 (h + 20) = some (.inl (ca 0, 17, .inl (iN (mq1 6)))) ∧ M1 (h + 21) = some (.inl (ca 0, 17, .inl (iN (mq1 7)))) ∧ M1 (h + 22) = some (.inl (ca 0, 17, .inl (iN (mq1 8)))) ∧ M1 (h + 23) = some (.inl (ca 0, 17, .inl (iN (mq1 9)))) ∧ (∀ z, z ≠ h → z ≠ (h + 14) → z ≠ (h + 15) → z ≠ (h + 16) → z ≠ (h + 17) → z ≠ (h + 18) → z ≠ (h + 19) → z ≠ (h + 20) → z ≠ (h + 21) → z ≠ (h + 22) → z ≠ (h + 23) → M1 z = M z) ∧ nI (tm + (k + 1)) = r))) := by
  refine gm_body (by decide) (Nat.le_of_ble_eq_true rfl) (fun p e s m below meth c ls hx hb hr hts hown hlk hml hnm hP hK hN hX hS hl => ?_)
  have htl : ∀ w ∈ LW, w.before _ s = true := fun w h => hts w (List.mem_cons_of_mem _ h)
  have hown : s.vm.findClass "PacketGateModel" = some m.cls := hown
  have hl : lv_has ls 3 [(0, .ref h), (1, .int y)] := hl
  generalize hQ : MQ below _ _ s _ _ A = Q
  rcases Classical.em (∃ k : Nat, k < 100 ∧ y = nI (k + 1)) with ⟨k, hk0, rfl⟩ | hno
  · skip
    refine lv_iload_n hx hb d_Mo_tick_0 rfl (lv_at hl 1 rfl) ?_
    refine lv_iconst (v := nI 1) hx hb d_Mo_tick_1 (by decide) ?_
    refine ln_lt (tgt := 11) hx hb d_Mo_tick_2 (by decide) (by omega) (by omega) (fun c_1 => ?_) (fun c_1 => ?_)
    · skip
      exfalso; omega
    · skip
      refine lv_iload_n hx hb d_Mo_tick_5 rfl (lv_at hl 1 rfl) ?_
      refine lv_bipush (v := nI 100) hx hb d_Mo_tick_6 (by decide) ?_
      refine ln_le (tgt := 13) hx hb d_Mo_tick_8 (by decide) (by omega) (by omega) (fun c_2 => ?_) (fun c_2 => ?_)
      · skip
        refine lv_aload_n hx hb d_Mo_tick_13 rfl (lv_at hl 0 rfl) ?_
        refine lv_dup hx hb d_Mo_tick_14 rfl ?_
        refine gm_get (C := R_Mo) (T := F_Mo) (n := 44) hx hb htl i_Mo hown hK hP eh rfl 36 (by decide) (htl _ k_779) (fun _ h => h) rfl d_Mo_tick_15 ?_
        refine lv_iload_n hx hb d_Mo_tick_18 rfl (lv_at hl 1 rfl) ?_
        refine lv_iadd hx hb d_Mo_tick_19 ?_
        rw [show (nI tm) + (nI (k + 1)) = nI (tm + (k + 1)) from nI_add _ _]
        refine gm_put (C := R_Mo) (T := F_Mo) (n := 44) (ty := .int) hx hb htl i_Mo t_Mo tk_Mo n_Mo hown hK hP hS eh rfl 36 (by decide) (htl _ k_779) (fun _ h => h) rfl (tk_Mo 36 (by decide)) rfl rfl (Nat.le_of_ble_eq_true rfl) d_Mo_tick_20 (fun H locs hP hS => ?_)
        have hP : gm_P D cls A N (gm_up M h (moO h (nI le) bp (nI nr) (nI wh) (nI tl) (nI ne) (nI nf) (nI na) (nI an) (nI (tm + (k + 1))) (nI cn) (nI cs) (nI bd) (nI lt) (nI nt) fx fy)) H := hP
        have h_3 := gm_pass (k := h) (y := moO h (nI le) bp (nI nr) (nI wh) (nI tl) (nI ne) (nI nf) (nI na) (nI an) (nI (tm + (k + 1))) (nI cn) (nI cs) (nI bd) (nI lt) (nI nt) fx fy) m14 (gm_ne m14 eh (fun h => by cases h))
        have h_4 := gm_pass (k := h) (y := moO h (nI le) bp (nI nr) (nI wh) (nI tl) (nI ne) (nI nf) (nI na) (nI an) (nI (tm + (k + 1))) (nI cn) (nI cs) (nI bd) (nI lt) (nI nt) fx fy) m15 (gm_ne m15 eh (fun h => by cases h))
        have h_5 := gm_pass (k := h) (y := moO h (nI le) bp (nI nr) (nI wh) (nI tl) (nI ne) (nI nf) (nI na) (nI an) (nI (tm + (k + 1))) (nI cn) (nI cs) (nI bd) (nI lt) (nI nt) fx fy) m16 (gm_ne m16 eh (fun h => by cases h))
        have h_6 := gm_pass (k := h) (y := moO h (nI le) bp (nI nr) (nI wh) (nI tl) (nI ne) (nI nf) (nI na) (nI an) (nI (tm + (k + 1))) (nI cn) (nI cs) (nI bd) (nI lt) (nI nt) fx fy) m17 (gm_ne m17 eh (fun h => by cases h))
        have h_7 := gm_pass (k := h) (y := moO h (nI le) bp (nI nr) (nI wh) (nI tl) (nI ne) (nI nf) (nI na) (nI an) (nI (tm + (k + 1))) (nI cn) (nI cs) (nI bd) (nI lt) (nI nt) fx fy) m18 (gm_ne m18 eh (fun h => by cases h))
        have h_8 := gm_pass (k := h) (y := moO h (nI le) bp (nI nr) (nI wh) (nI tl) (nI ne) (nI nf) (nI na) (nI an) (nI (tm + (k + 1))) (nI cn) (nI cs) (nI bd) (nI lt) (nI nt) fx fy) m19 (gm_ne m19 eh (fun h => by cases h))
        have h_9 := gm_pass (k := h) (y := moO h (nI le) bp (nI nr) (nI wh) (nI tl) (nI ne) (nI nf) (nI na) (nI an) (nI (tm + (k + 1))) (nI cn) (nI cs) (nI bd) (nI lt) (nI nt) fx fy) m20 (gm_ne m20 eh (fun h => by cases h))
        have h_10 := gm_pass (k := h) (y := moO h (nI le) bp (nI nr) (nI wh) (nI tl) (nI ne) (nI nf) (nI na) (nI an) (nI (tm + (k + 1))) (nI cn) (nI cs) (nI bd) (nI lt) (nI nt) fx fy) m21 (gm_ne m21 eh (fun h => by cases h))
        have h_11 := gm_pass (k := h) (y := moO h (nI le) bp (nI nr) (nI wh) (nI tl) (nI ne) (nI nf) (nI na) (nI an) (nI (tm + (k + 1))) (nI cn) (nI cs) (nI bd) (nI lt) (nI nt) fx fy) m22 (gm_ne m22 eh (fun h => by cases h))
        have h_12 := gm_pass (k := h) (y := moO h (nI le) bp (nI nr) (nI wh) (nI tl) (nI ne) (nI nf) (nI na) (nI an) (nI (tm + (k + 1))) (nI cn) (nI cs) (nI bd) (nI lt) (nI nt) fx fy) m23 (gm_ne m23 eh (fun h => by cases h))
        have h_13 := gm_up_self M h (moO h (nI le) bp (nI nr) (nI wh) (nI tl) (nI ne) (nI nf) (nI na) (nI an) (nI (tm + (k + 1))) (nI cn) (nI cs) (nI bd) (nI lt) (nI nt) fx fy)
        refine lv_aload_n hx hb d_Mo_tick_23 rfl (lv_at hl 0 rfl) ?_
        refine gm_get (C := R_Mo) (T := F_Mo) (n := 44) hx hb htl i_Mo hown hK hP h_13 rfl 29 (by decide) (htl _ k_772) (fun _ h => h) rfl d_Mo_tick_24 ?_
        refine lv_iconst (v := nI 1) hx hb d_Mo_tick_27 (by decide) ?_
        refine lv_isub hx hb d_Mo_tick_28 ?_
        refine lv_istore_n (lv' := [(2, .int (dn nf)), (0, .ref h), (1, .int (nI (k + 1)))]) hx hb d_Mo_tick_29 rfl hl (by decide) rfl (fun ls hl => ?_)
        have loop_30 : ∀ (fu : Nat) (jd : Nat) (nv : Nat) (gv : Nat → Nat → Nat) (mv : Nat → Nat → Nat) (Mv : gm_M) (ls : Array Slot) (H : Heap) (locs : List Loc), (Mv h = some (moO h (nI le) bp (nI nr) (nI wh) (nI tl) (nI ne) (nI nv) (nI na) (nI an) (nI (tm + (k + 1))) (nI cn) (nI cs) (nI bd) (nI lt) (nI nt) fx fy)) → (Mv (h + 14) = some (.inl (ca 0, 17, .inl (iN (mv 0))))) → (Mv (h + 15) = some (.inl (ca 0, 17, .inl (iN (mv 1))))) → (Mv (h + 16) = some (.inl (ca 0, 17, .inl (iN (mv 2))))) → (Mv (h + 17) = some (.inl (ca 0, 17, .inl (iN (mv 3))))) → (Mv (h + 18) = some (.inl (ca 0, 17, .inl (iN (mv 4))))) → (Mv (h + 19) = some (.inl (ca 0, 17, .inl (iN (mv 5))))) → (Mv (h + 20) = some (.inl (ca 0, 17, .inl (iN (mv 6))))) → (Mv (h + 21) = some (.inl (ca 0, 17, .inl (iN (mv 7))))) → (Mv (h + 22) = some (.inl (ca 0, 17, .inl (iN (mv 8))))) → (Mv (h + 23) = some (.inl (ca 0, 17, .inl (iN (mv 9))))) → (jd ≤ nv ∧ nv ≤ nf) → (relF nv gv mv) → (okF gv) → (sweep (tP (tm + (k + 1))) jd gv nv = sweep (tP (tm + (k + 1))) nf fl nf) → (∀ z, z ≠ h → z ≠ (h + 14) → z ≠ (h + 15) → z ≠ (h + 16) → z ≠ (h + 17) → z ≠ (h + 18) → z ≠ (h + 19) → z ≠ (h + 20) → z ≠ (h + 21) → z ≠ (h + 22) → z ≠ (h + 23) → Mv z = M z) → (∀ i, i < nv → gv i 5 ≤ tm ∧ 1 ≤ gv i 4) → jd < fu → gm_P D cls A N Mv H → va_S A s.heap H locs → lv_has ls 3 [(0, .ref h), (2, .int (dn jd))] → W p l e ({ frames := 1, cells := 0, slots := 0, locals := 22 }) s m ([.ref h, .int (nI (k + 1))] : List Value).toArray below meth c H locs (0) (0) Q (F0 m 30 ls []) := by
          intro fu
          induction fu with
          | zero => intro jd nv gv mv Mv ls H locs ehv m14v m15v m16v m17v m18v m19v m20v m21v m22v m23v hjn hRv hFv hsw hfrv hlv hk; exact absurd hk (Nat.not_lt_zero _)
          | succ fu ih_30 =>
            intro jd nv gv mv Mv ls H locs ehv m14v m15v m16v m17v m18v m19v m20v m21v m22v m23v hjn hRv hFv hsw hfrv hlv hk hP hS hl
            rcases jd with _ | qi
            · skip
              rw [dn_0] at hl
              refine lv_iload_n hx hb d_Mo_tick_30 rfl (lv_at hl 1 rfl) ?_
              refine lv_if_lt (tgt := 68) hx hb d_Mo_tick_31 (by decide) (fun _ => ?_) (fun q => absurd q (by decide))
              refine lv_aload_n hx hb d_Mo_tick_68 rfl (lv_at hl 0 rfl) ?_
              refine gm_get (C := R_Mo) (T := F_Mo) (n := 44) hx hb htl i_Mo hown hK hP ehv rfl 36 (by decide) (htl _ k_779) (fun _ h => h) rfl d_Mo_tick_69 ?_
              rw [← hQ]
              exact gc_iret hx hb hr hlk hP hS d_Mo_tick_72 ⟨rfl, Or.inr ⟨k, gv, nv, mv, ⟨hk0, rfl⟩, hsw.symm, hjn.2, hRv, hFv, ehv, m14v, m15v, m16v, m17v, m18v, m19v, m20v, m21v, m22v, m23v, (fun z q0 q1 q2 q3 q4 q5 q6 q7 q8 q9 q10 => (hfrv z q0 q1 q2 q3 q4 q5 q6 q7 q8 q9 q10).trans (rfl)), rfl⟩⟩
            · skip
              rw [dn_s] at hl
              refine lv_iload_n hx hb d_Mo_tick_30 rfl (lv_at hl 1 rfl) ?_
              refine lz_lt (tgt := 68) hx hb d_Mo_tick_31 (by decide) (by omega) ?_
              have hlq := hlv qi (by omega)
              refine lv_aload_n hx hb d_Mo_tick_34 rfl (lv_at hl 0 rfl) ?_
              refine gm_get (C := R_Mo) (T := F_Mo) (n := 44) hx hb htl i_Mo hown hK hP ehv rfl 36 (by decide) (htl _ k_779) (fun _ h => h) rfl d_Mo_tick_35 ?_
              refine lv_aload_n hx hb d_Mo_tick_38 rfl (lv_at hl 0 rfl) ?_
              refine gm_get (C := R_Mo) (T := F_Mo) (n := 44) hx hb htl i_Mo hown hK hP ehv rfl 26 (by decide) (htl _ k_769) (fun _ h => h) rfl d_Mo_tick_39 ?_
              refine lv_iload_n hx hb d_Mo_tick_42 rfl (lv_at hl 1 rfl) ?_
              refine gz_iald hx hb hK hP 0 m21v rfl (by omega) (by omega) d_Mo_tick_43 ?_
              rw [show (mv 7) qi = gv qi 5 from (hRv qi (by omega)).2.2.2.2.2.2.2.1]
              have b_15 := (hFv qi).1 5
              refine lv_isub hx hb d_Mo_tick_44 ?_
              rw [show (nI (tm + (k + 1))) - (nI (gv qi 5)) = nI ((tm + (k + 1)) - (gv qi 5)) from pk_sub (by omega)]
              refine lv_aload_n hx hb d_Mo_tick_45 rfl (lv_at hl 0 rfl) ?_
              refine gm_get (C := R_Mo) (T := F_Mo) (n := 44) hx hb htl i_Mo hown hK hP ehv rfl 19 (by decide) (htl _ k_762) (fun _ h => h) rfl d_Mo_tick_46 ?_
              refine lv_iload_n hx hb d_Mo_tick_49 rfl (lv_at hl 1 rfl) ?_
              refine gz_iald hx hb hK hP 0 m14v rfl (by omega) (by omega) d_Mo_tick_50 ?_
              rw [show (mv 0) qi = gv qi 4 from (hRv qi (by omega)).1]
              have b_16 := (hFv qi).2
              refine gc_S (n := 1) [.int (nI (gv qi 4))] [.int (nI ((tm + (k + 1)) - (gv qi 5)))] hx hb hml hown hts hK hN hX hP hS (c_Mo_limit (by omega)) k_1018 k_1019 k_10 k_1020 (by decide +kernel) ⟨by decide, by decide⟩ rfl hl.1 rfl (Nat.le_of_ble_eq_true rfl) d_Mo_tick_51 ⟨by decide, by decide⟩ (fun r N1 M_17 H locs hw hP hS => ?_)
              obtain ⟨rfl, hw⟩ := hw
              obtain ⟨rfl, rfl⟩ := hw
              refine W.eq (g2 := F0 m 54 ls [.int (nI (limN (gv qi 4))), .int (nI ((tm + (k + 1)) - (gv qi 5)))]) rfl ?_
              have b_18 := limN_lt (gv qi 4)
              refine ln_lt (tgt := 62) hx hb d_Mo_tick_54 (by decide) (by omega) (by omega) (fun c_19 => ?_) (fun c_19 => ?_)
              · skip
                refine lv_iinc (v := dn qi) (lv' := [(2, .int (dn qi)), (0, .ref h)]) hx hb d_Mo_tick_62 hl (k := 1) rfl (dn_inc _) (by decide) rfl (fun ls hl => ?_)
                refine lv_goto (tgt := 30) hx hb d_Mo_tick_65 (by decide) ?_
                exact ih_30 qi nv gv mv _ ls _ _ ehv m14v m15v m16v m17v m18v m19v m20v m21v m22v m23v (⟨by omega, by omega⟩) hRv hFv ((sweep_f (decide_eq_false (by omega))).symm.trans hsw) (fun z r0 r1 r2 r3 r4 r5 r6 r7 r8 r9 r10 => (hfrv z r0 r1 r2 r3 r4 r5 r6 r7 r8 r9 r10).trans (rfl)) hlv (by omega) hP hS (lv_sub hl [1, 0] rfl)
              · skip
                refine lv_aload_n hx hb d_Mo_tick_57 rfl (lv_at hl 0 rfl) ?_
                refine lv_iload_n hx hb d_Mo_tick_58 rfl (lv_at hl 1 rfl) ?_
                refine gc_V (q := (R_Mo, F_Mo, 44)) (n := 1) [.int (nI qi)] [] hx hb hml hown hts hK hN hX hP hS (c_Mo_endFlow ehv m14v m15v m16v m17v m18v m19v m20v m21v m22v m23v (by omega) (by omega)) rfl ehv k_944 k_946 ks_Mo_endFlow k_10 k_947 (by decide +kernel) ⟨by decide, by decide⟩ rfl hl.1 rfl (Nat.le_of_ble_eq_true rfl) d_Mo_tick_59 ⟨by decide, by decide⟩ (fun r N1 M_20 H locs hw hP hS => ?_)
                obtain ⟨rfl, hw⟩ := hw
                obtain ⟨h_21, h_22, h_23, h_24, h_25, h_26, h_27, h_28, h_29, h_30, h_31, hfr_32⟩ := hw
                refine W.eq (g2 := F0 m 62 ls []) rfl ?_
                refine lv_iinc (v := dn qi) (lv' := [(2, .int (dn qi)), (0, .ref h)]) hx hb d_Mo_tick_62 hl (k := 1) rfl (dn_inc _) (by decide) rfl (fun ls hl => ?_)
                refine lv_goto (tgt := 30) hx hb d_Mo_tick_65 (by decide) ?_
                exact ih_30 qi (nv - 1) (rot gv qi nv) (shQ mv qi nv) _ ls _ _ h_21 h_22 h_23 h_24 h_25 h_26 h_27 h_28 h_29 h_30 h_31 (⟨by omega, by omega⟩) (relF_rm hRv (by omega)) (okF_rot hFv) ((sweep_t (decide_eq_true (by omega))).symm.trans hsw) (fun z r0 r1 r2 r3 r4 r5 r6 r7 r8 r9 r10 => (hfr_32 z r0 r1 r2 r3 r4 r5 r6 r7 r8 r9 r10).trans ((hfrv z r0 r1 r2 r3 r4 r5 r6 r7 r8 r9 r10).trans (rfl))) (fun q hq => by rw [rot_x]; exact hlv _ (rotx_lt2 (by omega) (by omega))) (by omega) hP hS (lv_sub hl [1, 0] rfl)
        exact loop_30 (_ + 1) nf nf fl mq _ ls _ locs h_13 h_3 h_4 h_5 h_6 h_7 h_8 h_9 h_10 h_11 h_12 (⟨Nat.le_refl _, Nat.le_refl _⟩) hRF hF rfl (fun z r0 r1 r2 r3 r4 r5 r6 r7 r8 r9 r10 => (gm_up_ne _ _ r0).trans (rfl)) hls (Nat.lt_succ_self _) hP hS (lv_sub hl [1, 0] rfl)
      · skip
        exfalso; omega
  · skip
    refine lv_iload_n hx hb d_Mo_tick_0 rfl (lv_at hl 1 rfl) ?_
    refine lv_iconst (v := nI 1) hx hb d_Mo_tick_1 (by decide) ?_
    refine lv_icmp_lt (tgt := 11) hx hb d_Mo_tick_2 (by decide) (fun c_33 => ?_) (fun c_33 => ?_)
    · skip
      refine lv_iconst (v := (-1)) hx hb d_Mo_tick_11 (by decide) ?_
      rw [← hQ]
      exact gc_iret hx hb hr hlk hP hS d_Mo_tick_12 ⟨rfl, Or.inl ⟨hno, rfl, rfl⟩⟩
    · skip
      refine lv_iload_n hx hb d_Mo_tick_5 rfl (lv_at hl 1 rfl) ?_
      refine lv_bipush (v := nI 100) hx hb d_Mo_tick_6 (by decide) ?_
      refine lv_icmp_le (tgt := 13) hx hb d_Mo_tick_8 (by decide) (fun c_34 => ?_) (fun c_34 => ?_)
      · skip
        exact absurd (tick_lift c_33 c_34) hno
      · skip
        refine lv_iconst (v := (-1)) hx hb d_Mo_tick_11 (by decide) ?_
        rw [← hQ]
        exact gc_iret hx hb hr hlk hP hS d_Mo_tick_12 ⟨rfl, Or.inl ⟨hno, rfl, rfl⟩⟩
set_option maxHeartbeats 4000000 in
set_option maxRecDepth 100000 in
theorem c_Mo_emission (y : Int32) {h le nr tl ne nf na an tm cn cs bd lt nt wh : Nat} {bp fx fy : Int32} {em : Nat → Nat} (eh : M h = some (moO h (nI le) bp (nI nr) (nI wh) (nI tl) (nI ne) (nI nf) (nI na) (nI an) (nI tm) (nI cn) (nI cs) (nI bd) (nI lt) (nI nt) fx fy)) (m27 : M (h + 27) = some (.inl (ca 0, 4, .inl (iN em)))) (han : an ≤ 1) : gC l D ca A G y_Mo_emission (.code y_Mo_emission b_Mo_emission 2 (some .int)) ({ frames := 0, cells := 0, slots := 0, locals := 0 }) N M [.ref h, .int y] gm_i (fun (r : Int32) (N1 : Nat) (M1 : gm_M) => N = N1 ∧ (((an = 0 ∨ ¬ ∃ k : Nat, k < 4 ∧ y = nI k) ∧ M = M1 ∧ (-1) = r) ∨ (∃ (k : Nat), (¬ an = 0) ∧ (k < 4 ∧ y = nI k) ∧ M = M1 ∧ nI (em k) = r))) := by
  refine gm_body (by decide) (Nat.le_of_ble_eq_true rfl) (fun p e s m below meth c ls hx hb hr hts hown hlk hml hnm hP hK hN hX hS hl => ?_)
  have htl : ∀ w ∈ LW, w.before _ s = true := fun w h => hts w (List.mem_cons_of_mem _ h)
  have hown : s.vm.findClass "PacketGateModel" = some m.cls := hown
  have hl : lv_has ls 2 [(0, .ref h), (1, .int y)] := hl
  generalize hQ : MQ below _ _ s _ _ A = Q
  rcases Classical.em (∃ k : Nat, k < 4 ∧ y = nI k) with ⟨k, hk0, rfl⟩ | hno
  · skip
    refine lv_aload_n hx hb d_Mo_emission_0 rfl (lv_at hl 0 rfl) ?_
    refine gm_get (C := R_Mo) (T := F_Mo) (n := 44) hx hb htl i_Mo hown hK hP eh rfl 35 (by decide) (htl _ k_778) (fun _ h => h) rfl d_Mo_emission_1 ?_
    refine lz_eq (tgt := 16) hx hb d_Mo_emission_4 (by decide) (by omega) (fun c_1 => ?_) (fun c_1 => ?_)
    · skip
      refine lv_iconst (v := (-1)) hx hb d_Mo_emission_16 (by decide) ?_
      refine lv_goto (tgt := 26) hx hb d_Mo_emission_17 (by decide) ?_
      rw [← hQ]
      exact gc_iret hx hb hr hlk hP hS d_Mo_emission_26 ⟨rfl, Or.inl ⟨Or.inl (by omega), rfl, rfl⟩⟩
    · skip
      refine lv_iload_n hx hb d_Mo_emission_7 rfl (lv_at hl 1 rfl) ?_
      refine lz_lt (tgt := 16) hx hb d_Mo_emission_8 (by decide) (by omega) ?_
      refine lv_iload_n hx hb d_Mo_emission_11 rfl (lv_at hl 1 rfl) ?_
      refine lv_iconst (v := nI 3) hx hb d_Mo_emission_12 (by decide) ?_
      refine ln_le (tgt := 20) hx hb d_Mo_emission_13 (by decide) (by omega) (by omega) (fun c_3 => ?_) (fun c_3 => ?_)
      · skip
        refine lv_aload_n hx hb d_Mo_emission_20 rfl (lv_at hl 0 rfl) ?_
        refine gm_get (C := R_Mo) (T := F_Mo) (n := 44) hx hb htl i_Mo hown hK hP eh rfl 34 (by decide) (htl _ k_777) (fun _ h => h) rfl d_Mo_emission_21 ?_
        refine lv_iload_n hx hb d_Mo_emission_24 rfl (lv_at hl 1 rfl) ?_
        refine gz_iald hx hb hK hP 0 m27 rfl (by omega) (by omega) d_Mo_emission_25 ?_
        rw [← hQ]
        exact gc_iret hx hb hr hlk hP hS d_Mo_emission_26 ⟨rfl, Or.inr ⟨k, by omega, ⟨hk0, rfl⟩, rfl, rfl⟩⟩
      · skip
        refine lv_iconst (v := (-1)) hx hb d_Mo_emission_16 (by decide) ?_
        refine lv_goto (tgt := 26) hx hb d_Mo_emission_17 (by decide) ?_
        rw [← hQ]
        exact gc_iret hx hb hr hlk hP hS d_Mo_emission_26 (by exfalso; omega)
  · skip
    refine lv_aload_n hx hb d_Mo_emission_0 rfl (lv_at hl 0 rfl) ?_
    refine gm_get (C := R_Mo) (T := F_Mo) (n := 44) hx hb htl i_Mo hown hK hP eh rfl 35 (by decide) (htl _ k_778) (fun _ h => h) rfl d_Mo_emission_1 ?_
    refine lz_eq (tgt := 16) hx hb d_Mo_emission_4 (by decide) (by omega) (fun c_4 => ?_) (fun c_4 => ?_)
    · skip
      refine lv_iconst (v := (-1)) hx hb d_Mo_emission_16 (by decide) ?_
      refine lv_goto (tgt := 26) hx hb d_Mo_emission_17 (by decide) ?_
      rw [← hQ]
      exact gc_iret hx hb hr hlk hP hS d_Mo_emission_26 ⟨rfl, Or.inl ⟨Or.inl (by omega), rfl, rfl⟩⟩
    · skip
      refine lv_iload_n hx hb d_Mo_emission_7 rfl (lv_at hl 1 rfl) ?_
      refine lv_if_lt (tgt := 16) hx hb d_Mo_emission_8 (by decide) (fun c_5 => ?_) (fun c_5 => ?_)
      · skip
        refine lv_iconst (v := (-1)) hx hb d_Mo_emission_16 (by decide) ?_
        refine lv_goto (tgt := 26) hx hb d_Mo_emission_17 (by decide) ?_
        rw [← hQ]
        exact gc_iret hx hb hr hlk hP hS d_Mo_emission_26 ⟨rfl, Or.inl ⟨Or.inr hno, rfl, rfl⟩⟩
      · skip
        refine lv_iload_n hx hb d_Mo_emission_11 rfl (lv_at hl 1 rfl) ?_
        refine lv_iconst (v := nI 3) hx hb d_Mo_emission_12 (by decide) ?_
        refine lv_icmp_le (tgt := 20) hx hb d_Mo_emission_13 (by decide) (fun c_6 => ?_) (fun c_6 => ?_)
        · exact absurd (lift0 (n := 4) (by decide) ⟨c_5, Int32.lt_of_le_of_lt c_6 (by decide)⟩) hno
        · skip
          refine lv_iconst (v := (-1)) hx hb d_Mo_emission_16 (by decide) ?_
          refine lv_goto (tgt := 26) hx hb d_Mo_emission_17 (by decide) ?_
          rw [← hQ]
          exact gc_iret hx hb hr hlk hP hS d_Mo_emission_26 ⟨rfl, Or.inl ⟨Or.inr hno, rfl, rfl⟩⟩
set_option maxHeartbeats 4000000 in
set_option maxRecDepth 100000 in
theorem c_Mo_flow (y y2 : Int32) {h le nr tl ne nf na an tm cn cs bd lt nt wh : Nat} {bp fx fy : Int32} {mq : Nat → Nat → Nat} {fl : Nat → Nat → Nat} (eh : M h = some (moO h (nI le) bp (nI nr) (nI wh) (nI tl) (nI ne) (nI nf) (nI na) (nI an) (nI tm) (nI cn) (nI cs) (nI bd) (nI lt) (nI nt) fx fy)) (m14 : M (h + 14) = some (.inl (ca 0, 17, .inl (iN (mq 0))))) (m15 : M (h + 15) = some (.inl (ca 0, 17, .inl (iN (mq 1))))) (m16 : M (h + 16) = some (.inl (ca 0, 17, .inl (iN (mq 2))))) (m17 : M (h + 17) = some (.inl (ca 0, 17, .inl (iN (mq 3))))) (m18 : M (h + 18) = some (.inl (ca 0, 17, .inl (iN (mq 4))))) (m19 : M (h + 19) = some (.inl (ca 0, 17, .inl (iN (mq 5))))) (m20 : M (h + 20) = some (.inl (ca 0, 17, .inl (iN (mq 6))))) (m21 : M (h + 21) = some (.inl (ca 0, 17, .inl (iN (mq 7))))) (m22 : M (h + 22) = some (.inl (ca 0, 17, .inl (iN (mq 8))))) (m23 : M (h + 23) = some (.inl (ca 0, 17, .inl (iN (mq 9))))) (hRF : relF nf fl mq) (hnf : nf ≤ 16) (hF : okF fl) : gC l D ca A G y_Mo_flow (.code y_Mo_flow b_Mo_flow 3 (some .int)) ({ frames := 0, cells := 0, slots := 0, locals := 0 }) N M [.ref h, .int y, .int y2] gm_i (fun (r : Int32) (N1 : Nat) (M1 : gm_M) => N = N1 ∧ (((¬ ∃ k f : Nat, (k < nf ∧ y = nI k) ∧ f < 8 ∧ y2 = nI f) ∧ M = M1 ∧ (-1) = r) ∨ (∃ (k : Nat) (f : Nat), (k < nf ∧ y = nI k) ∧ (f < 8) ∧ (y2 = nI f) ∧ M = M1 ∧ nI (flv fl k f) = r))) := by
  refine gm_body (by decide) (Nat.le_of_ble_eq_true rfl) (fun p e s m below meth c ls hx hb hr hts hown hlk hml hnm hP hK hN hX hS hl => ?_)
  have htl : ∀ w ∈ LW, w.before _ s = true := fun w h => hts w (List.mem_cons_of_mem _ h)
  have hown : s.vm.findClass "PacketGateModel" = some m.cls := hown
  have hl : lv_has ls 3 [(0, .ref h), (1, .int y), (2, .int y2)] := hl
  generalize hQ : MQ below _ _ s _ _ A = Q
  rcases Classical.em (∃ k f : Nat, (k < nf ∧ y = nI k) ∧ f < 8 ∧ y2 = nI f) with ⟨k, f, ⟨hk0, rfl⟩, hf, rfl⟩ | hno
  · skip
    refine lv_iload_n hx hb d_Mo_flow_0 rfl (lv_at hl 1 rfl) ?_
    refine lz_lt (tgt := 22) hx hb d_Mo_flow_1 (by decide) (by omega) ?_
    refine lv_iload_n hx hb d_Mo_flow_4 rfl (lv_at hl 1 rfl) ?_
    refine lv_aload_n hx hb d_Mo_flow_5 rfl (lv_at hl 0 rfl) ?_
    refine gm_get (C := R_Mo) (T := F_Mo) (n := 44) hx hb htl i_Mo hown hK hP eh rfl 29 (by decide) (htl _ k_772) (fun _ h => h) rfl d_Mo_flow_6 ?_
    refine ln_ge (tgt := 22) hx hb d_Mo_flow_9 (by decide) (by omega) (by omega) (fun c_2 => ?_) (fun c_2 => ?_)
    · skip
      exfalso; omega
    · skip
      refine lv_iload_n hx hb d_Mo_flow_12 rfl (lv_at hl 2 rfl) ?_
      refine lz_lt (tgt := 22) hx hb d_Mo_flow_13 (by decide) (by omega) ?_
      refine lv_iload_n hx hb d_Mo_flow_16 rfl (lv_at hl 2 rfl) ?_
      refine lv_bipush (v := nI 7) hx hb d_Mo_flow_17 (by decide) ?_
      refine ln_le (tgt := 24) hx hb d_Mo_flow_19 (by decide) (by omega) (by omega) (fun c_4 => ?_) (fun c_4 => ?_)
      · skip
        refine lv_iload_n hx hb d_Mo_flow_24 rfl (lv_at hl 2 rfl) ?_
        refine lv_iconst (v := nI 4) hx hb d_Mo_flow_25 (by decide) ?_
        refine ln_ge (tgt := 77) hx hb d_Mo_flow_26 (by decide) (by omega) (by omega) (fun c_5 => ?_) (fun c_5 => ?_)
        · skip
          refine lv_iload_n hx hb d_Mo_flow_77 rfl (lv_at hl 2 rfl) ?_
          refine lv_iconst (v := nI 4) hx hb d_Mo_flow_78 (by decide) ?_
          refine ln_ne (tgt := 91) hx hb d_Mo_flow_79 (by decide) (by omega) (by omega) (fun c_6 => ?_) (fun c_6 => ?_)
          · skip
            refine lv_iload_n hx hb d_Mo_flow_91 rfl (lv_at hl 2 rfl) ?_
            refine lv_iconst (v := nI 5) hx hb d_Mo_flow_92 (by decide) ?_
            refine ln_ne (tgt := 105) hx hb d_Mo_flow_93 (by decide) (by omega) (by omega) (fun c_7 => ?_) (fun c_7 => ?_)
            · skip
              refine lv_iload_n hx hb d_Mo_flow_105 rfl (lv_at hl 2 rfl) ?_
              refine lv_bipush (v := nI 6) hx hb d_Mo_flow_106 (by decide) ?_
              refine ln_ne (tgt := 120) hx hb d_Mo_flow_108 (by decide) (by omega) (by omega) (fun c_8 => ?_) (fun c_8 => ?_)
              · skip
                refine lv_aload_n hx hb d_Mo_flow_120 rfl (lv_at hl 0 rfl) ?_
                refine gm_get (C := R_Mo) (T := F_Mo) (n := 44) hx hb htl i_Mo hown hK hP eh rfl 26 (by decide) (htl _ k_769) (fun _ h => h) rfl d_Mo_flow_121 ?_
                refine lv_iload_n hx hb d_Mo_flow_124 rfl (lv_at hl 1 rfl) ?_
                refine gz_iald hx hb hK hP 0 m21 rfl (by omega) (by omega) d_Mo_flow_125 ?_
                rw [show (mq 7) k = fl k 5 from (hRF k (by omega)).2.2.2.2.2.2.2.1]
                have b_9 := (hF k).1 5
                rw [← hQ]
                exact gc_iret hx hb hr hlk hP hS d_Mo_flow_126 ⟨rfl, Or.inr ⟨k, f, ⟨hk0, rfl⟩, hf, rfl, rfl, congrArg nI (by rcases (show f = 0 ∨ f = 1 ∨ f = 2 ∨ f = 3 ∨ f = 4 ∨ f = 5 ∨ f = 6 ∨ f = 7 by omega) with rfl | rfl | rfl | rfl | rfl | rfl | rfl | rfl <;> first | rfl | omega)⟩⟩
              · skip
                refine lv_aload_n hx hb d_Mo_flow_111 rfl (lv_at hl 0 rfl) ?_
                refine gm_get (C := R_Mo) (T := F_Mo) (n := 44) hx hb htl i_Mo hown hK hP eh rfl 25 (by decide) (htl _ k_768) (fun _ h => h) rfl d_Mo_flow_112 ?_
                refine lv_iload_n hx hb d_Mo_flow_115 rfl (lv_at hl 1 rfl) ?_
                refine gz_iald hx hb hK hP 0 m20 rfl (by omega) (by omega) d_Mo_flow_116 ?_
                rw [show (mq 6) k = fl k 3 from (hRF k (by omega)).2.2.2.2.2.2.1]
                have b_10 := (hF k).1 3
                refine lv_goto (tgt := 126) hx hb d_Mo_flow_117 (by decide) ?_
                rw [← hQ]
                exact gc_iret hx hb hr hlk hP hS d_Mo_flow_126 ⟨rfl, Or.inr ⟨k, f, ⟨hk0, rfl⟩, hf, rfl, rfl, congrArg nI (by rcases (show f = 0 ∨ f = 1 ∨ f = 2 ∨ f = 3 ∨ f = 4 ∨ f = 5 ∨ f = 6 ∨ f = 7 by omega) with rfl | rfl | rfl | rfl | rfl | rfl | rfl | rfl <;> first | rfl | omega)⟩⟩
            · skip
              refine lv_aload_n hx hb d_Mo_flow_96 rfl (lv_at hl 0 rfl) ?_
              refine gm_get (C := R_Mo) (T := F_Mo) (n := 44) hx hb htl i_Mo hown hK hP eh rfl 24 (by decide) (htl _ k_767) (fun _ h => h) rfl d_Mo_flow_97 ?_
              refine lv_iload_n hx hb d_Mo_flow_100 rfl (lv_at hl 1 rfl) ?_
              refine gz_iald hx hb hK hP 0 m19 rfl (by omega) (by omega) d_Mo_flow_101 ?_
              rw [show (mq 5) k = fl k 2 % 256 from (hRF k (by omega)).2.2.2.2.2.1]
              have b_11 := (hF k).2
              refine lv_goto (tgt := 126) hx hb d_Mo_flow_102 (by decide) ?_
              rw [← hQ]
              exact gc_iret hx hb hr hlk hP hS d_Mo_flow_126 ⟨rfl, Or.inr ⟨k, f, ⟨hk0, rfl⟩, hf, rfl, rfl, congrArg nI (by rcases (show f = 0 ∨ f = 1 ∨ f = 2 ∨ f = 3 ∨ f = 4 ∨ f = 5 ∨ f = 6 ∨ f = 7 by omega) with rfl | rfl | rfl | rfl | rfl | rfl | rfl | rfl <;> first | rfl | omega)⟩⟩
          · skip
            refine lv_aload_n hx hb d_Mo_flow_82 rfl (lv_at hl 0 rfl) ?_
            refine gm_get (C := R_Mo) (T := F_Mo) (n := 44) hx hb htl i_Mo hown hK hP eh rfl 23 (by decide) (htl _ k_766) (fun _ h => h) rfl d_Mo_flow_83 ?_
            refine lv_iload_n hx hb d_Mo_flow_86 rfl (lv_at hl 1 rfl) ?_
            refine gz_iald hx hb hK hP 0 m18 rfl (by omega) (by omega) d_Mo_flow_87 ?_
            rw [show (mq 4) k = fl k 2 / 256 from (hRF k (by omega)).2.2.2.2.1]
            have b_12 := (hF k).2
            refine lv_goto (tgt := 126) hx hb d_Mo_flow_88 (by decide) ?_
            rw [← hQ]
            exact gc_iret hx hb hr hlk hP hS d_Mo_flow_126 ⟨rfl, Or.inr ⟨k, f, ⟨hk0, rfl⟩, hf, rfl, rfl, congrArg nI (by rcases (show f = 0 ∨ f = 1 ∨ f = 2 ∨ f = 3 ∨ f = 4 ∨ f = 5 ∨ f = 6 ∨ f = 7 by omega) with rfl | rfl | rfl | rfl | rfl | rfl | rfl | rfl <;> first | rfl | omega)⟩⟩
        · skip
          refine lv_iload_n hx hb d_Mo_flow_29 rfl (lv_at hl 2 rfl) ?_
          refine lz_ne (tgt := 42) hx hb d_Mo_flow_30 (by decide) (by omega) (fun c_13 => ?_) (fun c_13 => ?_)
          · skip
            refine lv_iload_n hx hb d_Mo_flow_42 rfl (lv_at hl 2 rfl) ?_
            refine lv_iconst (v := nI 1) hx hb d_Mo_flow_43 (by decide) ?_
            refine ln_ne (tgt := 56) hx hb d_Mo_flow_44 (by decide) (by omega) (by omega) (fun c_14 => ?_) (fun c_14 => ?_)
            · skip
              refine lv_iload_n hx hb d_Mo_flow_56 rfl (lv_at hl 2 rfl) ?_
              refine lv_iconst (v := nI 2) hx hb d_Mo_flow_57 (by decide) ?_
              refine ln_ne (tgt := 70) hx hb d_Mo_flow_58 (by decide) (by omega) (by omega) (fun c_15 => ?_) (fun c_15 => ?_)
              · skip
                refine lv_aload_n hx hb d_Mo_flow_70 rfl (lv_at hl 0 rfl) ?_
                refine gm_get (C := R_Mo) (T := F_Mo) (n := 44) hx hb htl i_Mo hown hK hP eh rfl 22 (by decide) (htl _ k_765) (fun _ h => h) rfl d_Mo_flow_71 ?_
                refine lv_iload_n hx hb d_Mo_flow_74 rfl (lv_at hl 1 rfl) ?_
                refine gz_iald hx hb hK hP 0 m17 rfl (by omega) (by omega) d_Mo_flow_75 ?_
                rw [show (mq 3) k = fl k 1 % 256 from (hRF k (by omega)).2.2.2.1]
                have b_16 := (hF k).2
                rw [← hQ]
                exact gc_iret hx hb hr hlk hP hS d_Mo_flow_76 ⟨rfl, Or.inr ⟨k, f, ⟨hk0, rfl⟩, hf, rfl, rfl, congrArg nI (by rcases (show f = 0 ∨ f = 1 ∨ f = 2 ∨ f = 3 ∨ f = 4 ∨ f = 5 ∨ f = 6 ∨ f = 7 by omega) with rfl | rfl | rfl | rfl | rfl | rfl | rfl | rfl <;> first | rfl | omega)⟩⟩
              · skip
                refine lv_aload_n hx hb d_Mo_flow_61 rfl (lv_at hl 0 rfl) ?_
                refine gm_get (C := R_Mo) (T := F_Mo) (n := 44) hx hb htl i_Mo hown hK hP eh rfl 21 (by decide) (htl _ k_764) (fun _ h => h) rfl d_Mo_flow_62 ?_
                refine lv_iload_n hx hb d_Mo_flow_65 rfl (lv_at hl 1 rfl) ?_
                refine gz_iald hx hb hK hP 0 m16 rfl (by omega) (by omega) d_Mo_flow_66 ?_
                rw [show (mq 2) k = fl k 1 / 256 from (hRF k (by omega)).2.2.1]
                have b_17 := (hF k).2
                refine lv_goto (tgt := 76) hx hb d_Mo_flow_67 (by decide) ?_
                rw [← hQ]
                exact gc_iret hx hb hr hlk hP hS d_Mo_flow_76 ⟨rfl, Or.inr ⟨k, f, ⟨hk0, rfl⟩, hf, rfl, rfl, congrArg nI (by rcases (show f = 0 ∨ f = 1 ∨ f = 2 ∨ f = 3 ∨ f = 4 ∨ f = 5 ∨ f = 6 ∨ f = 7 by omega) with rfl | rfl | rfl | rfl | rfl | rfl | rfl | rfl <;> first | rfl | omega)⟩⟩
            · skip
              refine lv_aload_n hx hb d_Mo_flow_47 rfl (lv_at hl 0 rfl) ?_
              refine gm_get (C := R_Mo) (T := F_Mo) (n := 44) hx hb htl i_Mo hown hK hP eh rfl 20 (by decide) (htl _ k_763) (fun _ h => h) rfl d_Mo_flow_48 ?_
              refine lv_iload_n hx hb d_Mo_flow_51 rfl (lv_at hl 1 rfl) ?_
              refine gz_iald hx hb hK hP 0 m15 rfl (by omega) (by omega) d_Mo_flow_52 ?_
              rw [show (mq 1) k = fl k 0 from (hRF k (by omega)).2.1]
              have b_18 := (hF k).2
              refine lv_goto (tgt := 76) hx hb d_Mo_flow_53 (by decide) ?_
              rw [← hQ]
              exact gc_iret hx hb hr hlk hP hS d_Mo_flow_76 ⟨rfl, Or.inr ⟨k, f, ⟨hk0, rfl⟩, hf, rfl, rfl, congrArg nI (by rcases (show f = 0 ∨ f = 1 ∨ f = 2 ∨ f = 3 ∨ f = 4 ∨ f = 5 ∨ f = 6 ∨ f = 7 by omega) with rfl | rfl | rfl | rfl | rfl | rfl | rfl | rfl <;> first | rfl | omega)⟩⟩
          · skip
            refine lv_aload_n hx hb d_Mo_flow_33 rfl (lv_at hl 0 rfl) ?_
            refine gm_get (C := R_Mo) (T := F_Mo) (n := 44) hx hb htl i_Mo hown hK hP eh rfl 19 (by decide) (htl _ k_762) (fun _ h => h) rfl d_Mo_flow_34 ?_
            refine lv_iload_n hx hb d_Mo_flow_37 rfl (lv_at hl 1 rfl) ?_
            refine gz_iald hx hb hK hP 0 m14 rfl (by omega) (by omega) d_Mo_flow_38 ?_
            rw [show (mq 0) k = fl k 4 from (hRF k (by omega)).1]
            have b_19 := (hF k).2
            refine lv_goto (tgt := 76) hx hb d_Mo_flow_39 (by decide) ?_
            rw [← hQ]
            exact gc_iret hx hb hr hlk hP hS d_Mo_flow_76 ⟨rfl, Or.inr ⟨k, f, ⟨hk0, rfl⟩, hf, rfl, rfl, congrArg nI (by rcases (show f = 0 ∨ f = 1 ∨ f = 2 ∨ f = 3 ∨ f = 4 ∨ f = 5 ∨ f = 6 ∨ f = 7 by omega) with rfl | rfl | rfl | rfl | rfl | rfl | rfl | rfl <;> first | rfl | omega)⟩⟩
      · skip
        exfalso; omega
  · skip
    refine lv_iload_n hx hb d_Mo_flow_0 rfl (lv_at hl 1 rfl) ?_
    refine lv_if_lt (tgt := 22) hx hb d_Mo_flow_1 (by decide) (fun c_20 => ?_) (fun c_20 => ?_)
    · skip
      refine lv_iconst (v := (-1)) hx hb d_Mo_flow_22 (by decide) ?_
      rw [← hQ]
      exact gc_iret hx hb hr hlk hP hS d_Mo_flow_23 ⟨rfl, Or.inl ⟨hno, rfl, rfl⟩⟩
    · skip
      refine lv_iload_n hx hb d_Mo_flow_4 rfl (lv_at hl 1 rfl) ?_
      refine lv_aload_n hx hb d_Mo_flow_5 rfl (lv_at hl 0 rfl) ?_
      refine gm_get (C := R_Mo) (T := F_Mo) (n := 44) hx hb htl i_Mo hown hK hP eh rfl 29 (by decide) (htl _ k_772) (fun _ h => h) rfl d_Mo_flow_6 ?_
      refine lv_icmp_ge (tgt := 22) hx hb d_Mo_flow_9 (by decide) (fun c_21 => ?_) (fun c_21 => ?_)
      · skip
        refine lv_iconst (v := (-1)) hx hb d_Mo_flow_22 (by decide) ?_
        rw [← hQ]
        exact gc_iret hx hb hr hlk hP hS d_Mo_flow_23 ⟨rfl, Or.inl ⟨hno, rfl, rfl⟩⟩
      · skip
        refine lv_iload_n hx hb d_Mo_flow_12 rfl (lv_at hl 2 rfl) ?_
        refine lv_if_lt (tgt := 22) hx hb d_Mo_flow_13 (by decide) (fun c_22 => ?_) (fun c_22 => ?_)
        · skip
          refine lv_iconst (v := (-1)) hx hb d_Mo_flow_22 (by decide) ?_
          rw [← hQ]
          exact gc_iret hx hb hr hlk hP hS d_Mo_flow_23 ⟨rfl, Or.inl ⟨hno, rfl, rfl⟩⟩
        · skip
          refine lv_iload_n hx hb d_Mo_flow_16 rfl (lv_at hl 2 rfl) ?_
          refine lv_bipush (v := nI 7) hx hb d_Mo_flow_17 (by decide) ?_
          refine lv_icmp_le (tgt := 24) hx hb d_Mo_flow_19 (by decide) (fun c_23 => ?_) (fun c_23 => ?_)
          · skip
            exact absurd (flw_lift (by omega) c_20 c_21 c_22 c_23) hno
          · skip
            refine lv_iconst (v := (-1)) hx hb d_Mo_flow_22 (by decide) ?_
            rw [← hQ]
            exact gc_iret hx hb hr hlk hP hS d_Mo_flow_23 ⟨rfl, Or.inl ⟨hno, rfl, rfl⟩⟩
set_option maxHeartbeats 4000000 in
set_option maxRecDepth 100000 in
theorem c_Mo_top {h le nr tl ne nf na an tm cn cs bd lt nt wh : Nat} {bp fx fy : Int32} {aA : Nat → Nat} {aS : Nat → Nat} {a0 : Nat} (eh : M h = some (moO h (nI le) bp (nI nr) (nI wh) (nI tl) (nI ne) (nI nf) (nI na) (nI an) (nI tm) (nI cn) (nI cs) (nI bd) (nI lt) (nI nt) fx fy)) (m24 : M (h + 24) = some (.inl (ca 0, 512, .inl (iN aA)))) (m25 : M (h + 25) = some (.inl (ca 0, 512, .inl (iN aS)))) (hacc : ∀ k, k < na → aA k < 600000 ∧ aS k ≤ 9999) (hna : na ≤ 512) (ha0 : a0 < 600000) : gC l D ca A G y_Mo_top (.code y_Mo_top b_Mo_top 4 (some .int)) ({ frames := 0, cells := 0, slots := 0, locals := 0 }) N M [.ref h, .int (nI a0)] gm_i (fun (r : Int32) (N1 : Nat) (M1 : gm_M) => N = N1 ∧ M = M1 ∧ nI (topA aA aS a0 na) = r) := by
  refine gm_body (by decide) (Nat.le_of_ble_eq_true rfl) (fun p e s m below meth c ls hx hb hr hts hown hlk hml hnm hP hK hN hX hS hl => ?_)
  have htl : ∀ w ∈ LW, w.before _ s = true := fun w h => hts w (List.mem_cons_of_mem _ h)
  have hown : s.vm.findClass "PacketGateModel" = some m.cls := hown
  have hl : lv_has ls 4 [(0, .ref h), (1, .int (nI a0))] := hl
  generalize hQ : MQ below _ _ s _ _ A = Q
  refine lv_iconst (v := nI 0) hx hb d_Mo_top_0 (by decide) ?_
  refine lv_istore_n (lv' := [(2, .int (nI 0)), (0, .ref h), (1, .int (nI a0))]) hx hb d_Mo_top_1 rfl hl (by decide) rfl (fun ls hl => ?_)
  refine lv_iconst (v := nI 0) hx hb d_Mo_top_2 (by decide) ?_
  refine lv_istore_n (lv' := [(3, .int (nI 0)), (2, .int (nI 0)), (0, .ref h), (1, .int (nI a0))]) hx hb d_Mo_top_3 rfl hl (by decide) rfl (fun ls hl => ?_)
  have loop_4 : ∀ (fu : Nat) (i : Nat) (tv : Nat) (ls : Array Slot) (H : Heap) (locs : List Loc), (i ≤ na) → (topA aA aS a0 i = tv) → (tv ≤ 9999) → (na - i) < fu → gm_P D cls A N M H → va_S A s.heap H locs → lv_has ls 4 [(0, .ref h), (1, .int (nI a0)), (2, .int (nI tv)), (3, .int (nI i))] → W p l e ({ frames := 0, cells := 0, slots := 0, locals := 0 }) s m ([.ref h, .int (nI a0)] : List Value).toArray below meth c H locs (0) (0) Q (F0 m 4 ls []) := by
    intro fu
    induction fu with
    | zero => intro i tv ls H locs hi hv htv hk; exact absurd hk (Nat.not_lt_zero _)
    | succ fu ih_4 =>
      intro i tv ls H locs hi hv htv hk hP hS hl
      refine lv_iload_n hx hb d_Mo_top_4 rfl (lv_at hl 3 rfl) ?_
      refine lv_aload_n hx hb d_Mo_top_5 rfl (lv_at hl 0 rfl) ?_
      refine gm_get (C := R_Mo) (T := F_Mo) (n := 44) hx hb htl i_Mo hown hK hP eh rfl 32 (by decide) (htl _ k_775) (fun _ h => h) rfl d_Mo_top_6 ?_
      refine ln_ge (tgt := 45) hx hb d_Mo_top_9 (by decide) (by omega) (by omega) (fun c_1 => ?_) (fun c_1 => ?_)
      · skip
        refine lv_iload_n hx hb d_Mo_top_45 rfl (lv_at hl 2 rfl) ?_
        rw [← hQ]
        exact gc_iret hx hb hr hlk hP hS d_Mo_top_46 ⟨rfl, rfl, congrArg nI (by rw [show na = i from (by omega), hv])⟩
      · skip
        refine lv_aload_n hx hb d_Mo_top_12 rfl (lv_at hl 0 rfl) ?_
        refine gm_get (C := R_Mo) (T := F_Mo) (n := 44) hx hb htl i_Mo hown hK hP eh rfl 30 (by decide) (htl _ k_773) (fun _ h => h) rfl d_Mo_top_13 ?_
        refine lv_iload_n hx hb d_Mo_top_16 rfl (lv_at hl 3 rfl) ?_
        refine gz_iald hx hb hK hP 0 m24 rfl (by omega) (by omega) d_Mo_top_17 ?_
        have hab_ := hacc i (by omega)
        refine lv_iload_n hx hb d_Mo_top_18 rfl (lv_at hl 1 rfl) ?_
        refine ln_ne (tgt := 39) hx hb d_Mo_top_19 (by decide) (by omega) (by omega) (fun c_2 => ?_) (fun c_2 => ?_)
        · skip
          refine lv_iinc (v := nI (i + 1)) (lv' := [(3, .int (nI (i + 1))), (0, .ref h), (1, .int (nI a0)), (2, .int (nI tv))]) hx hb d_Mo_top_39 hl (k := 3) rfl (nI_1 i) (by decide) rfl (fun ls hl => ?_)
          refine lv_goto (tgt := 4) hx hb d_Mo_top_42 (by decide) ?_
          exact ih_4 (i + 1) tv ls _ _ (by omega) (by rw [topA, hv, if_neg (by omega)]) (by omega) (by omega) hP hS (lv_sub hl [1, 2, 3, 0] rfl)
        · skip
          refine lv_aload_n hx hb d_Mo_top_22 rfl (lv_at hl 0 rfl) ?_
          refine gm_get (C := R_Mo) (T := F_Mo) (n := 44) hx hb htl i_Mo hown hK hP eh rfl 31 (by decide) (htl _ k_774) (fun _ h => h) rfl d_Mo_top_23 ?_
          refine lv_iload_n hx hb d_Mo_top_26 rfl (lv_at hl 3 rfl) ?_
          refine gz_iald hx hb hK hP 0 m25 rfl (by omega) (by omega) d_Mo_top_27 ?_
          have has_ := hacc i (by omega)
          refine lv_iload_n hx hb d_Mo_top_28 rfl (lv_at hl 2 rfl) ?_
          refine ln_le (tgt := 39) hx hb d_Mo_top_29 (by decide) (by omega) (by omega) (fun c_3 => ?_) (fun c_3 => ?_)
          · skip
            refine lv_iinc (v := nI (i + 1)) (lv' := [(3, .int (nI (i + 1))), (0, .ref h), (1, .int (nI a0)), (2, .int (nI tv))]) hx hb d_Mo_top_39 hl (k := 3) rfl (nI_1 i) (by decide) rfl (fun ls hl => ?_)
            refine lv_goto (tgt := 4) hx hb d_Mo_top_42 (by decide) ?_
            exact ih_4 (i + 1) tv ls _ _ (by omega) (by rw [topA, hv, if_neg (by omega)]) (by omega) (by omega) hP hS (lv_sub hl [1, 2, 3, 0] rfl)
          · skip
            refine lv_aload_n hx hb d_Mo_top_32 rfl (lv_at hl 0 rfl) ?_
            refine gm_get (C := R_Mo) (T := F_Mo) (n := 44) hx hb htl i_Mo hown hK hP eh rfl 31 (by decide) (htl _ k_774) (fun _ h => h) rfl d_Mo_top_33 ?_
            refine lv_iload_n hx hb d_Mo_top_36 rfl (lv_at hl 3 rfl) ?_
            refine gz_iald hx hb hK hP 0 m25 rfl (by omega) (by omega) d_Mo_top_37 ?_
            have has_ := hacc i (by omega)
            refine lv_istore_n (lv' := [(2, .int (nI (aS i))), (0, .ref h), (1, .int (nI a0)), (3, .int (nI i))]) hx hb d_Mo_top_38 rfl hl (by decide) rfl (fun ls hl => ?_)
            refine lv_iinc (v := nI (i + 1)) (lv' := [(3, .int (nI (i + 1))), (2, .int (nI (aS i))), (0, .ref h), (1, .int (nI a0))]) hx hb d_Mo_top_39 hl (k := 3) rfl (nI_1 i) (by decide) rfl (fun ls hl => ?_)
            refine lv_goto (tgt := 4) hx hb d_Mo_top_42 (by decide) ?_
            exact ih_4 (i + 1) (aS i) ls _ _ (by omega) (by rw [topA, hv, if_pos ⟨by omega, by omega⟩]) (by omega) (by omega) hP hS (lv_sub hl [2, 3, 1, 0] rfl)
  exact loop_4 (_ + 1) 0 0 ls _ _ (Nat.zero_le _) rfl (Nat.zero_le _) (Nat.lt_succ_self _) hP hS (lv_sub hl [2, 3, 1, 0] rfl)
end C39
