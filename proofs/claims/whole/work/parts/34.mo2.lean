section C34
variable {l : Launch} {D : va_G} {ca : Nat → ClassId} {A : Nat → Prop} {G : gG} {N : Nat} {M : gm_M}

set_option maxHeartbeats 4000000 in
set_option maxRecDepth 100000 in
theorem c_Mo_range {h le nr tl ne nf na an tm cn cs bd lt nt wh : Nat} {bp fx fy : Int32} {lm : Nat → Nat} {mfr : Nat → Nat} {mto : Nat → Nat} {t : List Nat} {pt a b : Nat} (eh : M h = some (moO h (nI le) bp (nI nr) (nI wh) (nI tl) (nI ne) (nI nf) (nI na) (nI an) (nI tm) (nI cn) (nI cs) (nI bd) (nI lt) (nI nt) fx fy)) (m1 : M (h + 1) = some (.inl (ca 0, 40, .inl (iN lm)))) (m7 : M (h + 7) = some (.inl (ca 0, 3, .inl (iN mfr)))) (m8 : M (h + 8) = some (.inl (ca 0, 3, .inl (iN mto)))) (hlm : txM lm t) (htl : t.length ≤ 40) (hc8 : ∀ i, i < t.length → t.getD i 32 < 256) (hab : a ≤ b ∧ b ≤ t.length) (hpt : pt < 3) : gC l D ca A G y_Mo_range (.code y_Mo_range b_Mo_range 5 (some .boolean)) ({ frames := 2, cells := 0, slots := 0, locals := 50 }) N M [.ref h, .int (nI pt), .int (nI a), .int (nI b)] gm_i (fun (r : Int32) (N1 : Nat) (M1 : gm_M) => N = N1 ∧ ((∃ (fr1 : Nat → Nat) (to1 : Nat → Nat) (wh1 : Nat), (rgF t a b = none) ∧ (∀ q, q ≠ pt → fr1 q = mfr q ∧ to1 q = mto q) ∧ M1 h = some (moO h (nI le) bp (nI nr) (nI wh1) (nI tl) (nI ne) (nI nf) (nI na) (nI an) (nI tm) (nI cn) (nI cs) (nI bd) (nI lt) (nI nt) fx fy) ∧ M1 (h + 7) = some (.inl (ca 0, 3, .inl (iN fr1))) ∧ M1 (h + 8) = some (.inl (ca 0, 3, .inl (iN to1))) ∧ (∀ z, z ≠ h → z ≠ (h + 7) → z ≠ (h + 8) → M1 z = M z) ∧ nI 0 = r) ∨ (∃ (fr1 : Nat → Nat) (to1 : Nat → Nat), (rgF t a b = some none) ∧ (∀ q, q ≠ pt → fr1 q = mfr q ∧ to1 q = mto q) ∧ M1 h = some (moO h (nI le) bp (nI nr) (nI 0) (nI tl) (nI ne) (nI nf) (nI na) (nI an) (nI tm) (nI cn) (nI cs) (nI bd) (nI lt) (nI nt) fx fy) ∧ M1 (h + 7) = some (.inl (ca 0, 3, .inl (iN fr1))) ∧ M1 (h + 8) = some (.inl (ca 0, 3, .inl (iN to1))) ∧ (∀ z, z ≠ h → z ≠ (h + 7) → z ≠ (h + 8) → M1 z = M z) ∧ nI 1 = r) ∨ (∃ (x0 : Nat) (y0 : Nat) (fr1 : Nat → Nat) (to1 : Nat → Nat), (rgF t a b = some (some (x0, y0))) ∧ (x0 ≤ 255 ∧ y0 ≤ 255) ∧ (fr1 pt = x0 ∧ to1 pt = y0) ∧ (∀ q, q ≠ pt → fr1 q = mfr q ∧ to1 q = mto q) ∧ M1 h = some (moO h (nI le) bp (nI nr) (nI 1) (nI tl) (nI ne) (nI nf) (nI na) (nI an) (nI tm) (nI cn) (nI cs) (nI bd) (nI lt) (nI nt) fx fy) ∧ M1 (h + 7) = some (.inl (ca 0, 3, .inl (iN fr1))) ∧ M1 (h + 8) = some (.inl (ca 0, 3, .inl (iN to1))) ∧ (∀ z, z ≠ h → z ≠ (h + 7) → z ≠ (h + 8) → M1 z = M z) ∧ nI 1 = r))) := by
  refine gm_body (by decide) (Nat.le_of_ble_eq_true rfl) (fun p e s m below meth c ls hx hb hr hts hown hlk hml hnm hP hK hN hX hS hl => ?_)
  have htl : ∀ w ∈ LW, w.before _ s = true := fun w h => hts w (List.mem_cons_of_mem _ h)
  have hown : s.vm.findClass "PacketGateModel" = some m.cls := hown
  have hl : lv_has ls 5 [(0, .ref h), (1, .int (nI pt)), (2, .int (nI a)), (3, .int (nI b))] := hl
  generalize hQ : MQ below _ _ s _ _ A = Q
  refine lv_aload_n hx hb d_Mo_range_0 rfl (lv_at hl 0 rfl) ?_
  refine lv_iconst (v := nI 0) hx hb d_Mo_range_1 (by decide) ?_
  refine gm_put (C := R_Mo) (T := F_Mo) (n := 44) (ty := .boolean) hx hb htl i_Mo t_Mo tk_Mo n_Mo hown hK hP hS eh rfl 11 (by decide) (htl _ k_754) (fun _ h => h) rfl (tk_Mo 11 (by decide)) rfl rfl (Nat.le_of_ble_eq_true rfl) d_Mo_range_2 (fun H locs hP hS => ?_)
  have hP : gm_P D cls A N (gm_up M h (moO h (nI le) bp (nI nr) (nI 0) (nI tl) (nI ne) (nI nf) (nI na) (nI an) (nI tm) (nI cn) (nI cs) (nI bd) (nI lt) (nI nt) fx fy)) H := hP
  have h_1 := gm_pass (k := h) (y := moO h (nI le) bp (nI nr) (nI 0) (nI tl) (nI ne) (nI nf) (nI na) (nI an) (nI tm) (nI cn) (nI cs) (nI bd) (nI lt) (nI nt) fx fy) m1 (gm_ne m1 eh (fun h => by cases h))
  have h_2 := gm_pass (k := h) (y := moO h (nI le) bp (nI nr) (nI 0) (nI tl) (nI ne) (nI nf) (nI na) (nI an) (nI tm) (nI cn) (nI cs) (nI bd) (nI lt) (nI nt) fx fy) m7 (gm_ne m7 eh (fun h => by cases h))
  have h_3 := gm_pass (k := h) (y := moO h (nI le) bp (nI nr) (nI 0) (nI tl) (nI ne) (nI nf) (nI na) (nI an) (nI tm) (nI cn) (nI cs) (nI bd) (nI lt) (nI nt) fx fy) m8 (gm_ne m8 eh (fun h => by cases h))
  have h_4 := gm_up_self M h (moO h (nI le) bp (nI nr) (nI 0) (nI tl) (nI ne) (nI nf) (nI na) (nI an) (nI tm) (nI cn) (nI cs) (nI bd) (nI lt) (nI nt) fx fy)
  refine lv_aload_n hx hb d_Mo_range_5 rfl (lv_at hl 0 rfl) ?_
  refine gm_get (C := R_Mo) (T := F_Mo) (n := 44) hx hb htl i_Mo hown hK hP h_4 rfl 9 (by decide) (htl _ k_752) (fun _ h => h) rfl d_Mo_range_6 ?_
  refine lv_iload_n hx hb d_Mo_range_9 rfl (lv_at hl 1 rfl) ?_
  refine lv_iconst (v := nI 0) hx hb d_Mo_range_10 (by decide) ?_
  refine gz_iast hx hb hK hP hS 0 h_2 rfl (by omega) (by omega) d_Mo_range_11 (fun H locs hP hS => ?_)
  have hP : gm_P D cls A N (gm_up (gm_up M h (moO h (nI le) bp (nI nr) (nI 0) (nI tl) (nI ne) (nI nf) (nI na) (nI an) (nI tm) (nI cn) (nI cs) (nI bd) (nI lt) (nI nt) fx fy)) (h + 7) (.inl (ca 0, 3, .inl (iN (va_up mfr pt 0))))) H := hP
  have h_5 := gm_pass (k := (h + 7)) (y := .inl (ca 0, 3, .inl (iN (va_up mfr pt 0)))) h_1 (gm_ne h_1 h_2 (fun h => by simp at h))
  have h_6 := gm_pass (k := (h + 7)) (y := .inl (ca 0, 3, .inl (iN (va_up mfr pt 0)))) h_3 (by omega)
  have h_7 := gm_pass (k := (h + 7)) (y := .inl (ca 0, 3, .inl (iN (va_up mfr pt 0)))) h_4 (gm_ne h_4 h_2 (fun h => by cases h))
  have h_8 := gm_up_self (gm_up M h (moO h (nI le) bp (nI nr) (nI 0) (nI tl) (nI ne) (nI nf) (nI na) (nI an) (nI tm) (nI cn) (nI cs) (nI bd) (nI lt) (nI nt) fx fy)) (h + 7) (.inl (ca 0, 3, .inl (iN (va_up mfr pt 0))))
  refine lv_aload_n hx hb d_Mo_range_12 rfl (lv_at hl 0 rfl) ?_
  refine gm_get (C := R_Mo) (T := F_Mo) (n := 44) hx hb htl i_Mo hown hK hP h_7 rfl 10 (by decide) (htl _ k_753) (fun _ h => h) rfl d_Mo_range_13 ?_
  refine lv_iload_n hx hb d_Mo_range_16 rfl (lv_at hl 1 rfl) ?_
  refine lv_sipush (v := nI 255) hx hb d_Mo_range_17 (by decide) ?_
  refine gz_iast hx hb hK hP hS 0 h_6 rfl (by omega) (by omega) d_Mo_range_20 (fun H locs hP hS => ?_)
  have hP : gm_P D cls A N (gm_up (gm_up (gm_up M h (moO h (nI le) bp (nI nr) (nI 0) (nI tl) (nI ne) (nI nf) (nI na) (nI an) (nI tm) (nI cn) (nI cs) (nI bd) (nI lt) (nI nt) fx fy)) (h + 7) (.inl (ca 0, 3, .inl (iN (va_up mfr pt 0))))) (h + 8) (.inl (ca 0, 3, .inl (iN (va_up mto pt 255))))) H := hP
  have h_9 := gm_pass (k := (h + 8)) (y := .inl (ca 0, 3, .inl (iN (va_up mto pt 255)))) h_5 (gm_ne h_5 h_6 (fun h => by simp at h))
  have h_10 := gm_pass (k := (h + 8)) (y := .inl (ca 0, 3, .inl (iN (va_up mto pt 255)))) h_7 (gm_ne h_7 h_6 (fun h => by cases h))
  have h_11 := gm_pass (k := (h + 8)) (y := .inl (ca 0, 3, .inl (iN (va_up mto pt 255)))) h_8 (by omega)
  have h_12 := gm_up_self (gm_up (gm_up M h (moO h (nI le) bp (nI nr) (nI 0) (nI tl) (nI ne) (nI nf) (nI na) (nI an) (nI tm) (nI cn) (nI cs) (nI bd) (nI lt) (nI nt) fx fy)) (h + 7) (.inl (ca 0, 3, .inl (iN (va_up mfr pt 0))))) (h + 8) (.inl (ca 0, 3, .inl (iN (va_up mto pt 255))))
  refine lv_iload_n hx hb d_Mo_range_21 rfl (lv_at hl 2 rfl) ?_
  refine lv_iload_n hx hb d_Mo_range_22 rfl (lv_at hl 3 rfl) ?_
  refine ln_ne (tgt := 28) hx hb d_Mo_range_23 (by decide) (by omega) (by omega) (fun c_13 => ?_) (fun c_13 => ?_)
  · skip
    refine lv_aload_n hx hb d_Mo_range_28 rfl (lv_at hl 0 rfl) ?_
    refine gm_get (C := R_Mo) (T := F_Mo) (n := 44) hx hb htl i_Mo hown hK hP h_10 rfl 0 (by decide) (htl _ k_743) (fun _ h => h) rfl d_Mo_range_29 ?_
    refine lv_iload_n hx hb d_Mo_range_32 rfl (lv_at hl 2 rfl) ?_
    refine gz_iald hx hb hK hP 0 h_9 rfl (by omega) (by omega) d_Mo_range_33 ?_
    rw [show lm a = t.getD a 32 from txM_32 hlm (by omega)]
    have b_14 := hc8 a (by omega)
    refine lv_bipush (v := nI 42) hx hb d_Mo_range_34 (by decide) ?_
    refine ln_ne (tgt := 57) hx hb d_Mo_range_36 (by decide) (by omega) (by omega) (fun c_15 => ?_) (fun c_15 => ?_)
    · skip
      refine lv_iload_n hx hb d_Mo_range_57 rfl (lv_at hl 2 rfl) ?_
      refine lv_istore (lv' := [(4, .int (nI a)), (0, .ref h), (1, .int (nI pt)), (2, .int (nI a)), (3, .int (nI b))]) hx hb d_Mo_range_58 hl (by decide) rfl (fun ls hl => ?_)
      have loop_60 : ∀ (fu : Nat) (i : Nat) (ls : Array Slot) (H : Heap) (locs : List Loc), (a ≤ i ∧ i ≤ b) → (∀ j, a ≤ j → j < i → ¬ t.getD j 32 = 45) → (b - i) < fu → gm_P D cls A N (gm_up (gm_up (gm_up M h (moO h (nI le) bp (nI nr) (nI 0) (nI tl) (nI ne) (nI nf) (nI na) (nI an) (nI tm) (nI cn) (nI cs) (nI bd) (nI lt) (nI nt) fx fy)) (h + 7) (.inl (ca 0, 3, .inl (iN (va_up mfr pt 0))))) (h + 8) (.inl (ca 0, 3, .inl (iN (va_up mto pt 255))))) H → va_S A s.heap H locs → lv_has ls 5 [(0, .ref h), (1, .int (nI pt)), (2, .int (nI a)), (3, .int (nI b)), (4, .int (nI i))] → W p l e ({ frames := 2, cells := 0, slots := 0, locals := 50 }) s m ([.ref h, .int (nI pt), .int (nI a), .int (nI b)] : List Value).toArray below meth c H locs (0) (0) Q (F0 m 60 ls []) := by
        intro fu
        induction fu with
        | zero => intro i ls H locs hi hnd hk; exact absurd hk (Nat.not_lt_zero _)
        | succ fu ih_60 =>
          intro i ls H locs hi hnd hk hP hS hl
          refine lv_iload hx hb d_Mo_range_60 (lv_at hl 4 rfl) ?_
          refine lv_iload_n hx hb d_Mo_range_62 rfl (lv_at hl 3 rfl) ?_
          refine ln_ge (tgt := 84) hx hb d_Mo_range_63 (by decide) (by omega) (by omega) (fun c_16 => ?_) (fun c_16 => ?_)
          · skip
            have hfx : fxt t 45 a b = i := fx_eq (by omega) (by omega) hnd (by omega)
            refine lv_aload_n hx hb d_Mo_range_84 rfl (lv_at hl 0 rfl) ?_
            refine lv_iload_n hx hb d_Mo_range_85 rfl (lv_at hl 2 rfl) ?_
            refine lv_iload hx hb d_Mo_range_86 (lv_at hl 4 rfl) ?_
            refine lv_iconst (v := nI 0) hx hb d_Mo_range_88 (by decide) ?_
            refine gc_V (q := (R_Mo, F_Mo, 44)) (n := 3) [.int (nI a), .int (nI i), .int (nI 0)] [] hx hb hml hown hts hK hN hX hP hS (c_Mo_number (t := t) h_10 h_9 hlm (by omega) hc8 (by omega) (by omega)) rfl h_10 k_892 k_894 ks_Mo_number k_10 k_895 (by decide +kernel) ⟨by decide, by decide⟩ rfl hl.1 rfl (Nat.le_of_ble_eq_true rfl) d_Mo_range_89 ⟨by decide, by decide⟩ (fun r N1 M_17 H locs hw hP hS => ?_)
            obtain ⟨rfl, hw⟩ := hw
            rcases hw with ⟨c_18, rfl, rfl⟩ | ⟨c_19, rfl, rfl⟩
            · skip
              refine W.eq (g2 := F0 m 92 ls [.int (nI 1)]) rfl ?_
              have hn_20 := nmB_iff.mp c_18
              have b_21 := hn_20.1
              have b_22 := nmb_le hn_20
              refine lv_if_eq (tgt := 101) hx hb d_Mo_range_92 (by decide) (fun q => absurd q (by decide)) (fun _ => ?_)
              refine lv_iload hx hb d_Mo_range_95 (lv_at hl 4 rfl) ?_
              refine lv_iload_n hx hb d_Mo_range_97 rfl (lv_at hl 2 rfl) ?_
              refine ln_ne (tgt := 103) hx hb d_Mo_range_98 (by decide) (by omega) (by omega) (fun c_23 => ?_) (fun c_23 => ?_)
              · skip
                refine lv_aload_n hx hb d_Mo_range_103 rfl (lv_at hl 0 rfl) ?_
                refine gm_get (C := R_Mo) (T := F_Mo) (n := 44) hx hb htl i_Mo hown hK hP h_10 rfl 9 (by decide) (htl _ k_752) (fun _ h => h) rfl d_Mo_range_104 ?_
                refine lv_iload_n hx hb d_Mo_range_107 rfl (lv_at hl 1 rfl) ?_
                refine lv_aload_n hx hb d_Mo_range_108 rfl (lv_at hl 0 rfl) ?_
                refine lv_iload_n hx hb d_Mo_range_109 rfl (lv_at hl 2 rfl) ?_
                refine lv_iload hx hb d_Mo_range_110 (lv_at hl 4 rfl) ?_
                refine gc_V (q := (R_Mo, F_Mo, 44)) (n := 2) [.int (nI a), .int (nI i)] [.int (nI pt), .ref (h + 7)] hx hb hml hown hts hK hN hX hP hS (c_Mo_worth (t := t) h_10 h_9 hlm (by omega) hc8 (by omega) hn_20.2.1) rfl h_10 k_896 k_898 ks_Mo_worth k_10 k_899 (by decide +kernel) ⟨by decide, by decide⟩ rfl hl.1 rfl (Nat.le_of_ble_eq_true rfl) d_Mo_range_112 ⟨by decide, by decide⟩ (fun r N1 M_24 H locs hw hP hS => ?_)
                obtain ⟨rfl, hw⟩ := hw
                obtain ⟨rfl, rfl⟩ := hw
                refine W.eq (g2 := F0 m 115 ls [.int (nI (wth t a (i - a))), .int (nI pt), .ref (h + 7)]) rfl ?_
                refine gz_iast hx hb hK hP hS 0 h_11 rfl (by omega) (by omega) d_Mo_range_115 (fun H locs hP hS => ?_)
                have he_25 : gm_up (gm_up (gm_up (gm_up M h (moO h (nI le) bp (nI nr) (nI 0) (nI tl) (nI ne) (nI nf) (nI na) (nI an) (nI tm) (nI cn) (nI cs) (nI bd) (nI lt) (nI nt) fx fy)) (h + 7) (.inl (ca 0, 3, .inl (iN (va_up mfr pt 0))))) (h + 8) (.inl (ca 0, 3, .inl (iN (va_up mto pt 255))))) (h + 7) (.inl (ca 0, 3, .inl (iN (va_up (va_up mfr pt 0) pt (wth t a (i - a)))))) = gm_up (gm_up (gm_up M h (moO h (nI le) bp (nI nr) (nI 0) (nI tl) (nI ne) (nI nf) (nI na) (nI an) (nI tm) (nI cn) (nI cs) (nI bd) (nI lt) (nI nt) fx fy)) (h + 7) (.inl (ca 0, 3, .inl (iN (va_up (va_up mfr pt 0) pt (wth t a (i - a))))))) (h + 8) (.inl (ca 0, 3, .inl (iN (va_up mto pt 255)))) := (gm_swap (by omega)).trans (congrArg (fun Z => gm_up Z (h + 8) (.inl (ca 0, 3, .inl (iN (va_up mto pt 255))))) (gm_up_up _ _ _ _))
                have hP := Eq.mp (congrArg (fun Z => gm_P D cls A N Z H) he_25) hP
                have h_26 := (congrFun he_25 _).symm.trans (gm_pass (k := (h + 7)) (y := .inl (ca 0, 3, .inl (iN (va_up (va_up mfr pt 0) pt (wth t a (i - a)))))) h_9 (gm_ne h_9 h_11 (fun h => by simp at h)))
                have h_27 := (congrFun he_25 _).symm.trans (gm_pass (k := (h + 7)) (y := .inl (ca 0, 3, .inl (iN (va_up (va_up mfr pt 0) pt (wth t a (i - a)))))) h_10 (gm_ne h_10 h_11 (fun h => by cases h)))
                have h_28 := (congrFun he_25 _).symm.trans (gm_pass (k := (h + 7)) (y := .inl (ca 0, 3, .inl (iN (va_up (va_up mfr pt 0) pt (wth t a (i - a)))))) h_12 (by omega))
                have h_29 := (congrFun he_25 _).symm.trans (gm_up_self (gm_up (gm_up (gm_up M h (moO h (nI le) bp (nI nr) (nI 0) (nI tl) (nI ne) (nI nf) (nI na) (nI an) (nI tm) (nI cn) (nI cs) (nI bd) (nI lt) (nI nt) fx fy)) (h + 7) (.inl (ca 0, 3, .inl (iN (va_up mfr pt 0))))) (h + 8) (.inl (ca 0, 3, .inl (iN (va_up mto pt 255))))) (h + 7) (.inl (ca 0, 3, .inl (iN (va_up (va_up mfr pt 0) pt (wth t a (i - a)))))))
                refine lv_aload_n hx hb d_Mo_range_116 rfl (lv_at hl 0 rfl) ?_
                refine gm_get (C := R_Mo) (T := F_Mo) (n := 44) hx hb htl i_Mo hown hK hP h_27 rfl 10 (by decide) (htl _ k_753) (fun _ h => h) rfl d_Mo_range_117 ?_
                refine lv_iload_n hx hb d_Mo_range_120 rfl (lv_at hl 1 rfl) ?_
                refine lv_aload_n hx hb d_Mo_range_121 rfl (lv_at hl 0 rfl) ?_
                refine gm_get (C := R_Mo) (T := F_Mo) (n := 44) hx hb htl i_Mo hown hK hP h_27 rfl 9 (by decide) (htl _ k_752) (fun _ h => h) rfl d_Mo_range_122 ?_
                refine lv_iload_n hx hb d_Mo_range_125 rfl (lv_at hl 1 rfl) ?_
                refine gz_iald hx hb hK hP 0 h_29 rfl (by omega) (by omega) d_Mo_range_126 ?_
                rw [show (va_up (va_up mfr pt 0) pt (wth t a (i - a))) pt = (wth t a (i - a)) from va_up_self _ _ _]
                refine gz_iast hx hb hK hP hS 0 h_28 rfl (by omega) (by omega) d_Mo_range_127 (fun H locs hP hS => ?_)
                have he_30 : gm_up (gm_up (gm_up (gm_up M h (moO h (nI le) bp (nI nr) (nI 0) (nI tl) (nI ne) (nI nf) (nI na) (nI an) (nI tm) (nI cn) (nI cs) (nI bd) (nI lt) (nI nt) fx fy)) (h + 7) (.inl (ca 0, 3, .inl (iN (va_up (va_up mfr pt 0) pt (wth t a (i - a))))))) (h + 8) (.inl (ca 0, 3, .inl (iN (va_up mto pt 255))))) (h + 8) (.inl (ca 0, 3, .inl (iN (va_up (va_up mto pt 255) pt (wth t a (i - a)))))) = gm_up (gm_up (gm_up M h (moO h (nI le) bp (nI nr) (nI 0) (nI tl) (nI ne) (nI nf) (nI na) (nI an) (nI tm) (nI cn) (nI cs) (nI bd) (nI lt) (nI nt) fx fy)) (h + 7) (.inl (ca 0, 3, .inl (iN (va_up (va_up mfr pt 0) pt (wth t a (i - a))))))) (h + 8) (.inl (ca 0, 3, .inl (iN (va_up (va_up mto pt 255) pt (wth t a (i - a)))))) := gm_up_up _ _ _ _
                have hP := Eq.mp (congrArg (fun Z => gm_P D cls A N Z H) he_30) hP
                have h_31 := (congrFun he_30 _).symm.trans (gm_pass (k := (h + 8)) (y := .inl (ca 0, 3, .inl (iN (va_up (va_up mto pt 255) pt (wth t a (i - a)))))) h_26 (gm_ne h_26 h_28 (fun h => by simp at h)))
                have h_32 := (congrFun he_30 _).symm.trans (gm_pass (k := (h + 8)) (y := .inl (ca 0, 3, .inl (iN (va_up (va_up mto pt 255) pt (wth t a (i - a)))))) h_27 (gm_ne h_27 h_28 (fun h => by cases h)))
                have h_33 := (congrFun he_30 _).symm.trans (gm_pass (k := (h + 8)) (y := .inl (ca 0, 3, .inl (iN (va_up (va_up mto pt 255) pt (wth t a (i - a)))))) h_29 (by omega))
                have h_34 := (congrFun he_30 _).symm.trans (gm_up_self (gm_up (gm_up (gm_up M h (moO h (nI le) bp (nI nr) (nI 0) (nI tl) (nI ne) (nI nf) (nI na) (nI an) (nI tm) (nI cn) (nI cs) (nI bd) (nI lt) (nI nt) fx fy)) (h + 7) (.inl (ca 0, 3, .inl (iN (va_up (va_up mfr pt 0) pt (wth t a (i - a))))))) (h + 8) (.inl (ca 0, 3, .inl (iN (va_up mto pt 255))))) (h + 8) (.inl (ca 0, 3, .inl (iN (va_up (va_up mto pt 255) pt (wth t a (i - a)))))))
                refine lv_aload_n hx hb d_Mo_range_128 rfl (lv_at hl 0 rfl) ?_
                refine lv_iconst (v := nI 1) hx hb d_Mo_range_129 (by decide) ?_
                refine gm_put (C := R_Mo) (T := F_Mo) (n := 44) (ty := .boolean) hx hb htl i_Mo t_Mo tk_Mo n_Mo hown hK hP hS h_32 rfl 11 (by decide) (htl _ k_754) (fun _ h => h) rfl (tk_Mo 11 (by decide)) rfl rfl (Nat.le_of_ble_eq_true rfl) d_Mo_range_130 (fun H locs hP hS => ?_)
                have he_35 : gm_up (gm_up (gm_up (gm_up M h (moO h (nI le) bp (nI nr) (nI 0) (nI tl) (nI ne) (nI nf) (nI na) (nI an) (nI tm) (nI cn) (nI cs) (nI bd) (nI lt) (nI nt) fx fy)) (h + 7) (.inl (ca 0, 3, .inl (iN (va_up (va_up mfr pt 0) pt (wth t a (i - a))))))) (h + 8) (.inl (ca 0, 3, .inl (iN (va_up (va_up mto pt 255) pt (wth t a (i - a))))))) h (moO h (nI le) bp (nI nr) (nI 1) (nI tl) (nI ne) (nI nf) (nI na) (nI an) (nI tm) (nI cn) (nI cs) (nI bd) (nI lt) (nI nt) fx fy) = gm_up (gm_up (gm_up M h (moO h (nI le) bp (nI nr) (nI 1) (nI tl) (nI ne) (nI nf) (nI na) (nI an) (nI tm) (nI cn) (nI cs) (nI bd) (nI lt) (nI nt) fx fy)) (h + 7) (.inl (ca 0, 3, .inl (iN (va_up (va_up mfr pt 0) pt (wth t a (i - a))))))) (h + 8) (.inl (ca 0, 3, .inl (iN (va_up (va_up mto pt 255) pt (wth t a (i - a)))))) := (gm_swap (gm_ne h_34 h_32 (fun h => by cases h))).trans (congrArg (fun Z => gm_up Z (h + 8) (.inl (ca 0, 3, .inl (iN (va_up (va_up mto pt 255) pt (wth t a (i - a))))))) ((gm_swap (gm_ne h_33 h_32 (fun h => by cases h))).trans (congrArg (fun Z => gm_up Z (h + 7) (.inl (ca 0, 3, .inl (iN (va_up (va_up mfr pt 0) pt (wth t a (i - a))))))) (gm_up_up _ _ _ _))))
                have hP := Eq.mp (congrArg (fun Z => gm_P D cls A N Z H) he_35) hP
                have h_36 := (congrFun he_35 _).symm.trans (gm_pass (k := h) (y := moO h (nI le) bp (nI nr) (nI 1) (nI tl) (nI ne) (nI nf) (nI na) (nI an) (nI tm) (nI cn) (nI cs) (nI bd) (nI lt) (nI nt) fx fy) h_31 (gm_ne h_31 h_32 (fun h => by cases h)))
                have h_37 := (congrFun he_35 _).symm.trans (gm_pass (k := h) (y := moO h (nI le) bp (nI nr) (nI 1) (nI tl) (nI ne) (nI nf) (nI na) (nI an) (nI tm) (nI cn) (nI cs) (nI bd) (nI lt) (nI nt) fx fy) h_33 (gm_ne h_33 h_32 (fun h => by cases h)))
                have h_38 := (congrFun he_35 _).symm.trans (gm_pass (k := h) (y := moO h (nI le) bp (nI nr) (nI 1) (nI tl) (nI ne) (nI nf) (nI na) (nI an) (nI tm) (nI cn) (nI cs) (nI bd) (nI lt) (nI nt) fx fy) h_34 (gm_ne h_34 h_32 (fun h => by cases h)))
                have h_39 := (congrFun he_35 _).symm.trans (gm_up_self (gm_up (gm_up (gm_up M h (moO h (nI le) bp (nI nr) (nI 0) (nI tl) (nI ne) (nI nf) (nI na) (nI an) (nI tm) (nI cn) (nI cs) (nI bd) (nI lt) (nI nt) fx fy)) (h + 7) (.inl (ca 0, 3, .inl (iN (va_up (va_up mfr pt 0) pt (wth t a (i - a))))))) (h + 8) (.inl (ca 0, 3, .inl (iN (va_up (va_up mto pt 255) pt (wth t a (i - a))))))) h (moO h (nI le) bp (nI nr) (nI 1) (nI tl) (nI ne) (nI nf) (nI na) (nI an) (nI tm) (nI cn) (nI cs) (nI bd) (nI lt) (nI nt) fx fy))
                refine lv_iload hx hb d_Mo_range_133 (lv_at hl 4 rfl) ?_
                refine lv_iload_n hx hb d_Mo_range_135 rfl (lv_at hl 3 rfl) ?_
                refine ln_ne (tgt := 141) hx hb d_Mo_range_136 (by decide) (by omega) (by omega) (fun c_40 => ?_) (fun c_40 => ?_)
                · skip
                  refine lv_aload_n hx hb d_Mo_range_141 rfl (lv_at hl 0 rfl) ?_
                  refine lv_iconst (v := nI 0) hx hb d_Mo_range_142 (by decide) ?_
                  refine gm_put (C := R_Mo) (T := F_Mo) (n := 44) (ty := .boolean) hx hb htl i_Mo t_Mo tk_Mo n_Mo hown hK hP hS h_39 rfl 11 (by decide) (htl _ k_754) (fun _ h => h) rfl (tk_Mo 11 (by decide)) rfl rfl (Nat.le_of_ble_eq_true rfl) d_Mo_range_143 (fun H locs hP hS => ?_)
                  have he_41 : gm_up (gm_up (gm_up (gm_up M h (moO h (nI le) bp (nI nr) (nI 1) (nI tl) (nI ne) (nI nf) (nI na) (nI an) (nI tm) (nI cn) (nI cs) (nI bd) (nI lt) (nI nt) fx fy)) (h + 7) (.inl (ca 0, 3, .inl (iN (va_up (va_up mfr pt 0) pt (wth t a (i - a))))))) (h + 8) (.inl (ca 0, 3, .inl (iN (va_up (va_up mto pt 255) pt (wth t a (i - a))))))) h (moO h (nI le) bp (nI nr) (nI 0) (nI tl) (nI ne) (nI nf) (nI na) (nI an) (nI tm) (nI cn) (nI cs) (nI bd) (nI lt) (nI nt) fx fy) = gm_up (gm_up (gm_up M h (moO h (nI le) bp (nI nr) (nI 0) (nI tl) (nI ne) (nI nf) (nI na) (nI an) (nI tm) (nI cn) (nI cs) (nI bd) (nI lt) (nI nt) fx fy)) (h + 7) (.inl (ca 0, 3, .inl (iN (va_up (va_up mfr pt 0) pt (wth t a (i - a))))))) (h + 8) (.inl (ca 0, 3, .inl (iN (va_up (va_up mto pt 255) pt (wth t a (i - a)))))) := (gm_swap (gm_ne h_38 h_39 (fun h => by cases h))).trans (congrArg (fun Z => gm_up Z (h + 8) (.inl (ca 0, 3, .inl (iN (va_up (va_up mto pt 255) pt (wth t a (i - a))))))) ((gm_swap (gm_ne h_37 h_39 (fun h => by cases h))).trans (congrArg (fun Z => gm_up Z (h + 7) (.inl (ca 0, 3, .inl (iN (va_up (va_up mfr pt 0) pt (wth t a (i - a))))))) (gm_up_up _ _ _ _))))
                  have hP := Eq.mp (congrArg (fun Z => gm_P D cls A N Z H) he_41) hP
                  have h_42 := (congrFun he_41 _).symm.trans (gm_pass (k := h) (y := moO h (nI le) bp (nI nr) (nI 0) (nI tl) (nI ne) (nI nf) (nI na) (nI an) (nI tm) (nI cn) (nI cs) (nI bd) (nI lt) (nI nt) fx fy) h_36 (gm_ne h_36 h_39 (fun h => by cases h)))
                  have h_43 := (congrFun he_41 _).symm.trans (gm_pass (k := h) (y := moO h (nI le) bp (nI nr) (nI 0) (nI tl) (nI ne) (nI nf) (nI na) (nI an) (nI tm) (nI cn) (nI cs) (nI bd) (nI lt) (nI nt) fx fy) h_37 (gm_ne h_37 h_39 (fun h => by cases h)))
                  have h_44 := (congrFun he_41 _).symm.trans (gm_pass (k := h) (y := moO h (nI le) bp (nI nr) (nI 0) (nI tl) (nI ne) (nI nf) (nI na) (nI an) (nI tm) (nI cn) (nI cs) (nI bd) (nI lt) (nI nt) fx fy) h_38 (gm_ne h_38 h_39 (fun h => by cases h)))
                  have h_45 := (congrFun he_41 _).symm.trans (gm_up_self (gm_up (gm_up (gm_up M h (moO h (nI le) bp (nI nr) (nI 1) (nI tl) (nI ne) (nI nf) (nI na) (nI an) (nI tm) (nI cn) (nI cs) (nI bd) (nI lt) (nI nt) fx fy)) (h + 7) (.inl (ca 0, 3, .inl (iN (va_up (va_up mfr pt 0) pt (wth t a (i - a))))))) (h + 8) (.inl (ca 0, 3, .inl (iN (va_up (va_up mto pt 255) pt (wth t a (i - a))))))) h (moO h (nI le) bp (nI nr) (nI 0) (nI tl) (nI ne) (nI nf) (nI na) (nI an) (nI tm) (nI cn) (nI cs) (nI bd) (nI lt) (nI nt) fx fy))
                  refine lv_iload hx hb d_Mo_range_146 (lv_at hl 4 rfl) ?_
                  refine lv_iconst (v := nI 1) hx hb d_Mo_range_148 (by decide) ?_
                  refine lv_iadd hx hb d_Mo_range_149 ?_
                  rw [show (nI i) + (nI 1) = nI (i + 1) from nI_add _ _]
                  refine lv_iload_n hx hb d_Mo_range_150 rfl (lv_at hl 3 rfl) ?_
                  refine ln_ne (tgt := 156) hx hb d_Mo_range_151 (by decide) (by omega) (by omega) (fun c_46 => ?_) (fun c_46 => ?_)
                  · skip
                    refine lv_aload_n hx hb d_Mo_range_156 rfl (lv_at hl 0 rfl) ?_
                    refine lv_iload hx hb d_Mo_range_157 (lv_at hl 4 rfl) ?_
                    refine lv_iconst (v := nI 1) hx hb d_Mo_range_159 (by decide) ?_
                    refine lv_iadd hx hb d_Mo_range_160 ?_
                    rw [show (nI i) + (nI 1) = nI (i + 1) from nI_add _ _]
                    refine lv_iload_n hx hb d_Mo_range_161 rfl (lv_at hl 3 rfl) ?_
                    refine lv_aload_n hx hb d_Mo_range_162 rfl (lv_at hl 0 rfl) ?_
                    refine gm_get (C := R_Mo) (T := F_Mo) (n := 44) hx hb htl i_Mo hown hK hP h_45 rfl 9 (by decide) (htl _ k_752) (fun _ h => h) rfl d_Mo_range_163 ?_
                    refine lv_iload_n hx hb d_Mo_range_166 rfl (lv_at hl 1 rfl) ?_
                    refine gz_iald hx hb hK hP 0 h_43 rfl (by omega) (by omega) d_Mo_range_167 ?_
                    rw [show (va_up (va_up mfr pt 0) pt (wth t a (i - a))) pt = (wth t a (i - a)) from va_up_self _ _ _]
                    refine gc_V (q := (R_Mo, F_Mo, 44)) (n := 3) [.int (nI (i + 1)), .int (nI b), .int (nI (wth t a (i - a)))] [] hx hb hml hown hts hK hN hX hP hS (c_Mo_number (t := t) h_45 h_42 hlm (by omega) hc8 (by omega) (by omega)) rfl h_45 k_892 k_894 ks_Mo_number k_10 k_895 (by decide +kernel) ⟨by decide, by decide⟩ rfl hl.1 rfl (Nat.le_of_ble_eq_true rfl) d_Mo_range_168 ⟨by decide, by decide⟩ (fun r N1 M_47 H locs hw hP hS => ?_)
                    obtain ⟨rfl, hw⟩ := hw
                    rcases hw with ⟨c_48, rfl, rfl⟩ | ⟨c_49, rfl, rfl⟩
                    · skip
                      refine W.eq (g2 := F0 m 171 ls [.int (nI 1)]) rfl ?_
                      have hn_50 := nmB_iff.mp c_48
                      have b_51 := hn_50.1
                      have b_52 := nmb_le hn_50
                      refine lv_if_ne (tgt := 176) hx hb d_Mo_range_171 (by decide) (fun _ => ?_) (fun q => absurd q (by decide))
                      refine lv_aload_n hx hb d_Mo_range_176 rfl (lv_at hl 0 rfl) ?_
                      refine gm_get (C := R_Mo) (T := F_Mo) (n := 44) hx hb htl i_Mo hown hK hP h_45 rfl 10 (by decide) (htl _ k_753) (fun _ h => h) rfl d_Mo_range_177 ?_
                      refine lv_iload_n hx hb d_Mo_range_180 rfl (lv_at hl 1 rfl) ?_
                      refine lv_aload_n hx hb d_Mo_range_181 rfl (lv_at hl 0 rfl) ?_
                      refine lv_iload hx hb d_Mo_range_182 (lv_at hl 4 rfl) ?_
                      refine lv_iconst (v := nI 1) hx hb d_Mo_range_184 (by decide) ?_
                      refine lv_iadd hx hb d_Mo_range_185 ?_
                      rw [show (nI i) + (nI 1) = nI (i + 1) from nI_add _ _]
                      refine lv_iload_n hx hb d_Mo_range_186 rfl (lv_at hl 3 rfl) ?_
                      refine gc_V (q := (R_Mo, F_Mo, 44)) (n := 2) [.int (nI (i + 1)), .int (nI b)] [.int (nI pt), .ref (h + 8)] hx hb hml hown hts hK hN hX hP hS (c_Mo_worth (t := t) h_45 h_42 hlm (by omega) hc8 (by omega) hn_50.2.1) rfl h_45 k_896 k_898 ks_Mo_worth k_10 k_899 (by decide +kernel) ⟨by decide, by decide⟩ rfl hl.1 rfl (Nat.le_of_ble_eq_true rfl) d_Mo_range_187 ⟨by decide, by decide⟩ (fun r N1 M_53 H locs hw hP hS => ?_)
                      obtain ⟨rfl, hw⟩ := hw
                      obtain ⟨rfl, rfl⟩ := hw
                      refine W.eq (g2 := F0 m 190 ls [.int (nI (wth t (i + 1) (b - (i + 1)))), .int (nI pt), .ref (h + 8)]) rfl ?_
                      refine gz_iast hx hb hK hP hS 0 h_44 rfl (by omega) (by omega) d_Mo_range_190 (fun H locs hP hS => ?_)
                      have he_54 : gm_up (gm_up (gm_up (gm_up M h (moO h (nI le) bp (nI nr) (nI 0) (nI tl) (nI ne) (nI nf) (nI na) (nI an) (nI tm) (nI cn) (nI cs) (nI bd) (nI lt) (nI nt) fx fy)) (h + 7) (.inl (ca 0, 3, .inl (iN (va_up (va_up mfr pt 0) pt (wth t a (i - a))))))) (h + 8) (.inl (ca 0, 3, .inl (iN (va_up (va_up mto pt 255) pt (wth t a (i - a))))))) (h + 8) (.inl (ca 0, 3, .inl (iN (va_up (va_up (va_up mto pt 255) pt (wth t a (i - a))) pt (wth t (i + 1) (b - (i + 1))))))) = gm_up (gm_up (gm_up M h (moO h (nI le) bp (nI nr) (nI 0) (nI tl) (nI ne) (nI nf) (nI na) (nI an) (nI tm) (nI cn) (nI cs) (nI bd) (nI lt) (nI nt) fx fy)) (h + 7) (.inl (ca 0, 3, .inl (iN (va_up (va_up mfr pt 0) pt (wth t a (i - a))))))) (h + 8) (.inl (ca 0, 3, .inl (iN (va_up (va_up (va_up mto pt 255) pt (wth t a (i - a))) pt (wth t (i + 1) (b - (i + 1))))))) := gm_up_up _ _ _ _
                      have hP := Eq.mp (congrArg (fun Z => gm_P D cls A N Z H) he_54) hP
                      have h_55 := (congrFun he_54 _).symm.trans (gm_pass (k := (h + 8)) (y := .inl (ca 0, 3, .inl (iN (va_up (va_up (va_up mto pt 255) pt (wth t a (i - a))) pt (wth t (i + 1) (b - (i + 1))))))) h_42 (gm_ne h_42 h_44 (fun h => by simp at h)))
                      have h_56 := (congrFun he_54 _).symm.trans (gm_pass (k := (h + 8)) (y := .inl (ca 0, 3, .inl (iN (va_up (va_up (va_up mto pt 255) pt (wth t a (i - a))) pt (wth t (i + 1) (b - (i + 1))))))) h_43 (by omega))
                      have h_57 := (congrFun he_54 _).symm.trans (gm_pass (k := (h + 8)) (y := .inl (ca 0, 3, .inl (iN (va_up (va_up (va_up mto pt 255) pt (wth t a (i - a))) pt (wth t (i + 1) (b - (i + 1))))))) h_45 (gm_ne h_45 h_44 (fun h => by cases h)))
                      have h_58 := (congrFun he_54 _).symm.trans (gm_up_self (gm_up (gm_up (gm_up M h (moO h (nI le) bp (nI nr) (nI 0) (nI tl) (nI ne) (nI nf) (nI na) (nI an) (nI tm) (nI cn) (nI cs) (nI bd) (nI lt) (nI nt) fx fy)) (h + 7) (.inl (ca 0, 3, .inl (iN (va_up (va_up mfr pt 0) pt (wth t a (i - a))))))) (h + 8) (.inl (ca 0, 3, .inl (iN (va_up (va_up mto pt 255) pt (wth t a (i - a))))))) (h + 8) (.inl (ca 0, 3, .inl (iN (va_up (va_up (va_up mto pt 255) pt (wth t a (i - a))) pt (wth t (i + 1) (b - (i + 1))))))))
                      refine lv_aload_n hx hb d_Mo_range_191 rfl (lv_at hl 0 rfl) ?_
                      refine lv_aload_n hx hb d_Mo_range_192 rfl (lv_at hl 0 rfl) ?_
                      refine gm_get (C := R_Mo) (T := F_Mo) (n := 44) hx hb htl i_Mo hown hK hP h_57 rfl 10 (by decide) (htl _ k_753) (fun _ h => h) rfl d_Mo_range_193 ?_
                      refine lv_iload_n hx hb d_Mo_range_196 rfl (lv_at hl 1 rfl) ?_
                      refine gz_iald hx hb hK hP 0 h_58 rfl (by omega) (by omega) d_Mo_range_197 ?_
                      rw [show (va_up (va_up (va_up mto pt 255) pt (wth t a (i - a))) pt (wth t (i + 1) (b - (i + 1)))) pt = (wth t (i + 1) (b - (i + 1))) from va_up_self _ _ _]
                      refine lv_aload_n hx hb d_Mo_range_198 rfl (lv_at hl 0 rfl) ?_
                      refine gm_get (C := R_Mo) (T := F_Mo) (n := 44) hx hb htl i_Mo hown hK hP h_57 rfl 9 (by decide) (htl _ k_752) (fun _ h => h) rfl d_Mo_range_199 ?_
                      refine lv_iload_n hx hb d_Mo_range_202 rfl (lv_at hl 1 rfl) ?_
                      refine gz_iald hx hb hK hP 0 h_56 rfl (by omega) (by omega) d_Mo_range_203 ?_
                      rw [show (va_up (va_up mfr pt 0) pt (wth t a (i - a))) pt = (wth t a (i - a)) from va_up_self _ _ _]
                      refine ln_lt (tgt := 211) hx hb d_Mo_range_204 (by decide) (by omega) (by omega) (fun c_59 => ?_) (fun c_59 => ?_)
                      · skip
                        refine lv_iconst (v := nI 0) hx hb d_Mo_range_211 (by decide) ?_
                        refine gm_put (C := R_Mo) (T := F_Mo) (n := 44) (ty := .boolean) hx hb htl i_Mo t_Mo tk_Mo n_Mo hown hK hP hS h_57 rfl 11 (by decide) (htl _ k_754) (fun _ h => h) rfl (tk_Mo 11 (by decide)) rfl rfl (Nat.le_of_ble_eq_true rfl) d_Mo_range_212 (fun H locs hP hS => ?_)
                        have he_60 : gm_up (gm_up (gm_up (gm_up M h (moO h (nI le) bp (nI nr) (nI 0) (nI tl) (nI ne) (nI nf) (nI na) (nI an) (nI tm) (nI cn) (nI cs) (nI bd) (nI lt) (nI nt) fx fy)) (h + 7) (.inl (ca 0, 3, .inl (iN (va_up (va_up mfr pt 0) pt (wth t a (i - a))))))) (h + 8) (.inl (ca 0, 3, .inl (iN (va_up (va_up (va_up mto pt 255) pt (wth t a (i - a))) pt (wth t (i + 1) (b - (i + 1)))))))) h (moO h (nI le) bp (nI nr) (nI 0) (nI tl) (nI ne) (nI nf) (nI na) (nI an) (nI tm) (nI cn) (nI cs) (nI bd) (nI lt) (nI nt) fx fy) = gm_up (gm_up (gm_up M h (moO h (nI le) bp (nI nr) (nI 0) (nI tl) (nI ne) (nI nf) (nI na) (nI an) (nI tm) (nI cn) (nI cs) (nI bd) (nI lt) (nI nt) fx fy)) (h + 7) (.inl (ca 0, 3, .inl (iN (va_up (va_up mfr pt 0) pt (wth t a (i - a))))))) (h + 8) (.inl (ca 0, 3, .inl (iN (va_up (va_up (va_up mto pt 255) pt (wth t a (i - a))) pt (wth t (i + 1) (b - (i + 1))))))) := (gm_swap (gm_ne h_58 h_57 (fun h => by cases h))).trans (congrArg (fun Z => gm_up Z (h + 8) (.inl (ca 0, 3, .inl (iN (va_up (va_up (va_up mto pt 255) pt (wth t a (i - a))) pt (wth t (i + 1) (b - (i + 1)))))))) ((gm_swap (gm_ne h_56 h_57 (fun h => by cases h))).trans (congrArg (fun Z => gm_up Z (h + 7) (.inl (ca 0, 3, .inl (iN (va_up (va_up mfr pt 0) pt (wth t a (i - a))))))) (gm_up_up _ _ _ _))))
                        have hP := Eq.mp (congrArg (fun Z => gm_P D cls A N Z H) he_60) hP
                        have h_61 := (congrFun he_60 _).symm.trans (gm_pass (k := h) (y := moO h (nI le) bp (nI nr) (nI 0) (nI tl) (nI ne) (nI nf) (nI na) (nI an) (nI tm) (nI cn) (nI cs) (nI bd) (nI lt) (nI nt) fx fy) h_55 (gm_ne h_55 h_57 (fun h => by cases h)))
                        have h_62 := (congrFun he_60 _).symm.trans (gm_pass (k := h) (y := moO h (nI le) bp (nI nr) (nI 0) (nI tl) (nI ne) (nI nf) (nI na) (nI an) (nI tm) (nI cn) (nI cs) (nI bd) (nI lt) (nI nt) fx fy) h_56 (gm_ne h_56 h_57 (fun h => by cases h)))
                        have h_63 := (congrFun he_60 _).symm.trans (gm_pass (k := h) (y := moO h (nI le) bp (nI nr) (nI 0) (nI tl) (nI ne) (nI nf) (nI na) (nI an) (nI tm) (nI cn) (nI cs) (nI bd) (nI lt) (nI nt) fx fy) h_58 (gm_ne h_58 h_57 (fun h => by cases h)))
                        have h_64 := (congrFun he_60 _).symm.trans (gm_up_self (gm_up (gm_up (gm_up M h (moO h (nI le) bp (nI nr) (nI 0) (nI tl) (nI ne) (nI nf) (nI na) (nI an) (nI tm) (nI cn) (nI cs) (nI bd) (nI lt) (nI nt) fx fy)) (h + 7) (.inl (ca 0, 3, .inl (iN (va_up (va_up mfr pt 0) pt (wth t a (i - a))))))) (h + 8) (.inl (ca 0, 3, .inl (iN (va_up (va_up (va_up mto pt 255) pt (wth t a (i - a))) pt (wth t (i + 1) (b - (i + 1)))))))) h (moO h (nI le) bp (nI nr) (nI 0) (nI tl) (nI ne) (nI nf) (nI na) (nI an) (nI tm) (nI cn) (nI cs) (nI bd) (nI lt) (nI nt) fx fy))
                        refine lv_iconst (v := nI 1) hx hb d_Mo_range_215 (by decide) ?_
                        rw [← hQ]
                        exact gc_zret hx hb hr hlk hP hS d_Mo_range_216 rfl ⟨rfl, Or.inr (Or.inl ⟨(va_up (va_up mfr pt 0) pt (wth t a (i - a))), (va_up (va_up (va_up mto pt 255) pt (wth t a (i - a))) pt (wth t (i + 1) (b - (i + 1)))), (by unfold rgF; rw [if_neg (by omega), if_neg c_15, hfx, if_neg (by rw [c_18]; decide), if_neg (by omega), if_neg (by omega), if_neg (by omega), if_neg (by rw [c_48]; decide), if_neg (by omega)]), (fun q hq => ⟨(by simp only [va_up_ne _ _ hq]), (by simp only [va_up_ne _ _ hq])⟩), h_64, h_62, h_63, (fun z q0 q1 q2 => (gm_up_ne _ _ q2).trans ((gm_up_ne _ _ q1).trans ((gm_up_ne _ _ q0).trans (rfl)))), rfl⟩)⟩
                      · skip
                        refine lv_iconst (v := nI 1) hx hb d_Mo_range_207 (by decide) ?_
                        refine lv_goto (tgt := 212) hx hb d_Mo_range_208 (by decide) ?_
                        refine gm_put (C := R_Mo) (T := F_Mo) (n := 44) (ty := .boolean) hx hb htl i_Mo t_Mo tk_Mo n_Mo hown hK hP hS h_57 rfl 11 (by decide) (htl _ k_754) (fun _ h => h) rfl (tk_Mo 11 (by decide)) rfl rfl (Nat.le_of_ble_eq_true rfl) d_Mo_range_212 (fun H locs hP hS => ?_)
                        have he_65 : gm_up (gm_up (gm_up (gm_up M h (moO h (nI le) bp (nI nr) (nI 0) (nI tl) (nI ne) (nI nf) (nI na) (nI an) (nI tm) (nI cn) (nI cs) (nI bd) (nI lt) (nI nt) fx fy)) (h + 7) (.inl (ca 0, 3, .inl (iN (va_up (va_up mfr pt 0) pt (wth t a (i - a))))))) (h + 8) (.inl (ca 0, 3, .inl (iN (va_up (va_up (va_up mto pt 255) pt (wth t a (i - a))) pt (wth t (i + 1) (b - (i + 1)))))))) h (moO h (nI le) bp (nI nr) (nI 1) (nI tl) (nI ne) (nI nf) (nI na) (nI an) (nI tm) (nI cn) (nI cs) (nI bd) (nI lt) (nI nt) fx fy) = gm_up (gm_up (gm_up M h (moO h (nI le) bp (nI nr) (nI 1) (nI tl) (nI ne) (nI nf) (nI na) (nI an) (nI tm) (nI cn) (nI cs) (nI bd) (nI lt) (nI nt) fx fy)) (h + 7) (.inl (ca 0, 3, .inl (iN (va_up (va_up mfr pt 0) pt (wth t a (i - a))))))) (h + 8) (.inl (ca 0, 3, .inl (iN (va_up (va_up (va_up mto pt 255) pt (wth t a (i - a))) pt (wth t (i + 1) (b - (i + 1))))))) := (gm_swap (gm_ne h_58 h_57 (fun h => by cases h))).trans (congrArg (fun Z => gm_up Z (h + 8) (.inl (ca 0, 3, .inl (iN (va_up (va_up (va_up mto pt 255) pt (wth t a (i - a))) pt (wth t (i + 1) (b - (i + 1)))))))) ((gm_swap (gm_ne h_56 h_57 (fun h => by cases h))).trans (congrArg (fun Z => gm_up Z (h + 7) (.inl (ca 0, 3, .inl (iN (va_up (va_up mfr pt 0) pt (wth t a (i - a))))))) (gm_up_up _ _ _ _))))
                        have hP := Eq.mp (congrArg (fun Z => gm_P D cls A N Z H) he_65) hP
                        have h_66 := (congrFun he_65 _).symm.trans (gm_pass (k := h) (y := moO h (nI le) bp (nI nr) (nI 1) (nI tl) (nI ne) (nI nf) (nI na) (nI an) (nI tm) (nI cn) (nI cs) (nI bd) (nI lt) (nI nt) fx fy) h_55 (gm_ne h_55 h_57 (fun h => by cases h)))
                        have h_67 := (congrFun he_65 _).symm.trans (gm_pass (k := h) (y := moO h (nI le) bp (nI nr) (nI 1) (nI tl) (nI ne) (nI nf) (nI na) (nI an) (nI tm) (nI cn) (nI cs) (nI bd) (nI lt) (nI nt) fx fy) h_56 (gm_ne h_56 h_57 (fun h => by cases h)))
                        have h_68 := (congrFun he_65 _).symm.trans (gm_pass (k := h) (y := moO h (nI le) bp (nI nr) (nI 1) (nI tl) (nI ne) (nI nf) (nI na) (nI an) (nI tm) (nI cn) (nI cs) (nI bd) (nI lt) (nI nt) fx fy) h_58 (gm_ne h_58 h_57 (fun h => by cases h)))
                        have h_69 := (congrFun he_65 _).symm.trans (gm_up_self (gm_up (gm_up (gm_up M h (moO h (nI le) bp (nI nr) (nI 0) (nI tl) (nI ne) (nI nf) (nI na) (nI an) (nI tm) (nI cn) (nI cs) (nI bd) (nI lt) (nI nt) fx fy)) (h + 7) (.inl (ca 0, 3, .inl (iN (va_up (va_up mfr pt 0) pt (wth t a (i - a))))))) (h + 8) (.inl (ca 0, 3, .inl (iN (va_up (va_up (va_up mto pt 255) pt (wth t a (i - a))) pt (wth t (i + 1) (b - (i + 1)))))))) h (moO h (nI le) bp (nI nr) (nI 1) (nI tl) (nI ne) (nI nf) (nI na) (nI an) (nI tm) (nI cn) (nI cs) (nI bd) (nI lt) (nI nt) fx fy))
                        refine lv_iconst (v := nI 1) hx hb d_Mo_range_215 (by decide) ?_
                        rw [← hQ]
                        exact gc_zret hx hb hr hlk hP hS d_Mo_range_216 rfl ⟨rfl, Or.inr (Or.inr ⟨(wth t a (i - a)), (wth t (i + 1) (b - (i + 1))), (va_up (va_up mfr pt 0) pt (wth t a (i - a))), (va_up (va_up (va_up mto pt 255) pt (wth t a (i - a))) pt (wth t (i + 1) (b - (i + 1)))), (by unfold rgF; rw [if_neg (by omega), if_neg c_15, hfx, if_neg (by rw [c_18]; decide), if_neg (by omega), if_neg (by omega), if_neg (by omega), if_neg (by rw [c_48]; decide), if_pos (by omega)]), ⟨by omega, by omega⟩, ⟨va_up_self _ _ _, va_up_self _ _ _⟩, (fun q hq => ⟨(by simp only [va_up_ne _ _ hq]), (by simp only [va_up_ne _ _ hq])⟩), h_69, h_67, h_68, (fun z q0 q1 q2 => (gm_up_ne _ _ q2).trans ((gm_up_ne _ _ q1).trans ((gm_up_ne _ _ q0).trans (rfl)))), rfl⟩)⟩
                    · skip
                      refine W.eq (g2 := F0 m 171 ls [.int (nI 0)]) rfl ?_
                      refine lv_if_ne (tgt := 176) hx hb d_Mo_range_171 (by decide) (fun q => absurd q (by decide)) (fun _ => ?_)
                      refine lv_iconst (v := nI 0) hx hb d_Mo_range_174 (by decide) ?_
                      rw [← hQ]
                      exact gc_zret hx hb hr hlk hP hS d_Mo_range_175 rfl ⟨rfl, Or.inl ⟨(va_up (va_up mfr pt 0) pt (wth t a (i - a))), (va_up (va_up mto pt 255) pt (wth t a (i - a))), 0, (by unfold rgF; rw [if_neg (by omega), if_neg c_15, hfx, if_neg (by rw [c_18]; decide), if_neg (by omega), if_neg (by omega), if_neg (by omega), if_pos c_49]), (fun q hq => ⟨(by simp only [va_up_ne _ _ hq]), (by simp only [va_up_ne _ _ hq])⟩), h_45, h_43, h_44, (fun z q0 q1 q2 => (gm_up_ne _ _ q2).trans ((gm_up_ne _ _ q1).trans ((gm_up_ne _ _ q0).trans (rfl)))), rfl⟩⟩
                  · skip
                    refine lv_iconst (v := nI 1) hx hb d_Mo_range_154 (by decide) ?_
                    rw [← hQ]
                    exact gc_zret hx hb hr hlk hP hS d_Mo_range_155 rfl ⟨rfl, Or.inr (Or.inl ⟨(va_up (va_up mfr pt 0) pt (wth t a (i - a))), (va_up (va_up mto pt 255) pt (wth t a (i - a))), (by unfold rgF; rw [if_neg (by omega), if_neg c_15, hfx, if_neg (by rw [c_18]; decide), if_neg (by omega), if_neg (by omega), if_pos (by omega)]), (fun q hq => ⟨(by simp only [va_up_ne _ _ hq]), (by simp only [va_up_ne _ _ hq])⟩), h_45, h_43, h_44, (fun z q0 q1 q2 => (gm_up_ne _ _ q2).trans ((gm_up_ne _ _ q1).trans ((gm_up_ne _ _ q0).trans (rfl)))), rfl⟩)⟩
                · skip
                  refine lv_iconst (v := nI 1) hx hb d_Mo_range_139 (by decide) ?_
                  rw [← hQ]
                  exact gc_zret hx hb hr hlk hP hS d_Mo_range_140 rfl ⟨rfl, Or.inr (Or.inr ⟨(wth t a (i - a)), (wth t a (i - a)), (va_up (va_up mfr pt 0) pt (wth t a (i - a))), (va_up (va_up mto pt 255) pt (wth t a (i - a))), (by unfold rgF; rw [if_neg (by omega), if_neg c_15, hfx, if_neg (by rw [c_18]; decide), if_neg (by omega), if_pos (by omega)]), ⟨by omega, by omega⟩, ⟨va_up_self _ _ _, va_up_self _ _ _⟩, (fun q hq => ⟨(by simp only [va_up_ne _ _ hq]), (by simp only [va_up_ne _ _ hq])⟩), h_39, h_37, h_38, (fun z q0 q1 q2 => (gm_up_ne _ _ q2).trans ((gm_up_ne _ _ q1).trans ((gm_up_ne _ _ q0).trans (rfl)))), rfl⟩)⟩
              · skip
                refine lv_iconst (v := nI 0) hx hb d_Mo_range_101 (by decide) ?_
                rw [← hQ]
                exact gc_zret hx hb hr hlk hP hS d_Mo_range_102 rfl ⟨rfl, Or.inl ⟨(va_up mfr pt 0), (va_up mto pt 255), 0, (by unfold rgF; rw [if_neg (by omega), if_neg c_15, hfx, if_neg (by rw [c_18]; decide), if_pos (by omega)]), (fun q hq => ⟨(by simp only [va_up_ne _ _ hq]), (by simp only [va_up_ne _ _ hq])⟩), h_10, h_11, h_12, (fun z q0 q1 q2 => (gm_up_ne _ _ q2).trans ((gm_up_ne _ _ q1).trans ((gm_up_ne _ _ q0).trans (rfl)))), rfl⟩⟩
            · skip
              refine W.eq (g2 := F0 m 92 ls [.int (nI 0)]) rfl ?_
              refine lv_if_eq (tgt := 101) hx hb d_Mo_range_92 (by decide) (fun _ => ?_) (fun q => absurd q (by decide))
              refine lv_iconst (v := nI 0) hx hb d_Mo_range_101 (by decide) ?_
              rw [← hQ]
              exact gc_zret hx hb hr hlk hP hS d_Mo_range_102 rfl ⟨rfl, Or.inl ⟨(va_up mfr pt 0), (va_up mto pt 255), 0, (by unfold rgF; rw [if_neg (by omega), if_neg c_15, hfx, if_pos c_19]), (fun q hq => ⟨(by simp only [va_up_ne _ _ hq]), (by simp only [va_up_ne _ _ hq])⟩), h_10, h_11, h_12, (fun z q0 q1 q2 => (gm_up_ne _ _ q2).trans ((gm_up_ne _ _ q1).trans ((gm_up_ne _ _ q0).trans (rfl)))), rfl⟩⟩
          · skip
            refine lv_aload_n hx hb d_Mo_range_66 rfl (lv_at hl 0 rfl) ?_
            refine gm_get (C := R_Mo) (T := F_Mo) (n := 44) hx hb htl i_Mo hown hK hP h_10 rfl 0 (by decide) (htl _ k_743) (fun _ h => h) rfl d_Mo_range_67 ?_
            refine lv_iload hx hb d_Mo_range_70 (lv_at hl 4 rfl) ?_
            refine gz_iald hx hb hK hP 0 h_9 rfl (by omega) (by omega) d_Mo_range_72 ?_
            rw [show lm i = t.getD i 32 from txM_32 hlm (by omega)]
            have b_70 := hc8 i (by omega)
            refine lv_bipush (v := nI 45) hx hb d_Mo_range_73 (by decide) ?_
            refine ln_eq (tgt := 84) hx hb d_Mo_range_75 (by decide) (by omega) (by omega) (fun c_71 => ?_) (fun c_71 => ?_)
            · skip
              have hfx : fxt t 45 a b = i := fx_eq (by omega) (by omega) hnd (by omega)
              refine lv_aload_n hx hb d_Mo_range_84 rfl (lv_at hl 0 rfl) ?_
              refine lv_iload_n hx hb d_Mo_range_85 rfl (lv_at hl 2 rfl) ?_
              refine lv_iload hx hb d_Mo_range_86 (lv_at hl 4 rfl) ?_
              refine lv_iconst (v := nI 0) hx hb d_Mo_range_88 (by decide) ?_
              refine gc_V (q := (R_Mo, F_Mo, 44)) (n := 3) [.int (nI a), .int (nI i), .int (nI 0)] [] hx hb hml hown hts hK hN hX hP hS (c_Mo_number (t := t) h_10 h_9 hlm (by omega) hc8 (by omega) (by omega)) rfl h_10 k_892 k_894 ks_Mo_number k_10 k_895 (by decide +kernel) ⟨by decide, by decide⟩ rfl hl.1 rfl (Nat.le_of_ble_eq_true rfl) d_Mo_range_89 ⟨by decide, by decide⟩ (fun r N1 M_72 H locs hw hP hS => ?_)
              obtain ⟨rfl, hw⟩ := hw
              rcases hw with ⟨c_73, rfl, rfl⟩ | ⟨c_74, rfl, rfl⟩
              · skip
                refine W.eq (g2 := F0 m 92 ls [.int (nI 1)]) rfl ?_
                have hn_75 := nmB_iff.mp c_73
                have b_76 := hn_75.1
                have b_77 := nmb_le hn_75
                refine lv_if_eq (tgt := 101) hx hb d_Mo_range_92 (by decide) (fun q => absurd q (by decide)) (fun _ => ?_)
                refine lv_iload hx hb d_Mo_range_95 (lv_at hl 4 rfl) ?_
                refine lv_iload_n hx hb d_Mo_range_97 rfl (lv_at hl 2 rfl) ?_
                refine ln_ne (tgt := 103) hx hb d_Mo_range_98 (by decide) (by omega) (by omega) (fun c_78 => ?_) (fun c_78 => ?_)
                · skip
                  refine lv_aload_n hx hb d_Mo_range_103 rfl (lv_at hl 0 rfl) ?_
                  refine gm_get (C := R_Mo) (T := F_Mo) (n := 44) hx hb htl i_Mo hown hK hP h_10 rfl 9 (by decide) (htl _ k_752) (fun _ h => h) rfl d_Mo_range_104 ?_
                  refine lv_iload_n hx hb d_Mo_range_107 rfl (lv_at hl 1 rfl) ?_
                  refine lv_aload_n hx hb d_Mo_range_108 rfl (lv_at hl 0 rfl) ?_
                  refine lv_iload_n hx hb d_Mo_range_109 rfl (lv_at hl 2 rfl) ?_
                  refine lv_iload hx hb d_Mo_range_110 (lv_at hl 4 rfl) ?_
                  refine gc_V (q := (R_Mo, F_Mo, 44)) (n := 2) [.int (nI a), .int (nI i)] [.int (nI pt), .ref (h + 7)] hx hb hml hown hts hK hN hX hP hS (c_Mo_worth (t := t) h_10 h_9 hlm (by omega) hc8 (by omega) hn_75.2.1) rfl h_10 k_896 k_898 ks_Mo_worth k_10 k_899 (by decide +kernel) ⟨by decide, by decide⟩ rfl hl.1 rfl (Nat.le_of_ble_eq_true rfl) d_Mo_range_112 ⟨by decide, by decide⟩ (fun r N1 M_79 H locs hw hP hS => ?_)
                  obtain ⟨rfl, hw⟩ := hw
                  obtain ⟨rfl, rfl⟩ := hw
                  refine W.eq (g2 := F0 m 115 ls [.int (nI (wth t a (i - a))), .int (nI pt), .ref (h + 7)]) rfl ?_
                  refine gz_iast hx hb hK hP hS 0 h_11 rfl (by omega) (by omega) d_Mo_range_115 (fun H locs hP hS => ?_)
                  have he_80 : gm_up (gm_up (gm_up (gm_up M h (moO h (nI le) bp (nI nr) (nI 0) (nI tl) (nI ne) (nI nf) (nI na) (nI an) (nI tm) (nI cn) (nI cs) (nI bd) (nI lt) (nI nt) fx fy)) (h + 7) (.inl (ca 0, 3, .inl (iN (va_up mfr pt 0))))) (h + 8) (.inl (ca 0, 3, .inl (iN (va_up mto pt 255))))) (h + 7) (.inl (ca 0, 3, .inl (iN (va_up (va_up mfr pt 0) pt (wth t a (i - a)))))) = gm_up (gm_up (gm_up M h (moO h (nI le) bp (nI nr) (nI 0) (nI tl) (nI ne) (nI nf) (nI na) (nI an) (nI tm) (nI cn) (nI cs) (nI bd) (nI lt) (nI nt) fx fy)) (h + 7) (.inl (ca 0, 3, .inl (iN (va_up (va_up mfr pt 0) pt (wth t a (i - a))))))) (h + 8) (.inl (ca 0, 3, .inl (iN (va_up mto pt 255)))) := (gm_swap (by omega)).trans (congrArg (fun Z => gm_up Z (h + 8) (.inl (ca 0, 3, .inl (iN (va_up mto pt 255))))) (gm_up_up _ _ _ _))
                  have hP := Eq.mp (congrArg (fun Z => gm_P D cls A N Z H) he_80) hP
                  have h_81 := (congrFun he_80 _).symm.trans (gm_pass (k := (h + 7)) (y := .inl (ca 0, 3, .inl (iN (va_up (va_up mfr pt 0) pt (wth t a (i - a)))))) h_9 (gm_ne h_9 h_11 (fun h => by simp at h)))
                  have h_82 := (congrFun he_80 _).symm.trans (gm_pass (k := (h + 7)) (y := .inl (ca 0, 3, .inl (iN (va_up (va_up mfr pt 0) pt (wth t a (i - a)))))) h_10 (gm_ne h_10 h_11 (fun h => by cases h)))
                  have h_83 := (congrFun he_80 _).symm.trans (gm_pass (k := (h + 7)) (y := .inl (ca 0, 3, .inl (iN (va_up (va_up mfr pt 0) pt (wth t a (i - a)))))) h_12 (by omega))
                  have h_84 := (congrFun he_80 _).symm.trans (gm_up_self (gm_up (gm_up (gm_up M h (moO h (nI le) bp (nI nr) (nI 0) (nI tl) (nI ne) (nI nf) (nI na) (nI an) (nI tm) (nI cn) (nI cs) (nI bd) (nI lt) (nI nt) fx fy)) (h + 7) (.inl (ca 0, 3, .inl (iN (va_up mfr pt 0))))) (h + 8) (.inl (ca 0, 3, .inl (iN (va_up mto pt 255))))) (h + 7) (.inl (ca 0, 3, .inl (iN (va_up (va_up mfr pt 0) pt (wth t a (i - a)))))))
                  refine lv_aload_n hx hb d_Mo_range_116 rfl (lv_at hl 0 rfl) ?_
                  refine gm_get (C := R_Mo) (T := F_Mo) (n := 44) hx hb htl i_Mo hown hK hP h_82 rfl 10 (by decide) (htl _ k_753) (fun _ h => h) rfl d_Mo_range_117 ?_
                  refine lv_iload_n hx hb d_Mo_range_120 rfl (lv_at hl 1 rfl) ?_
                  refine lv_aload_n hx hb d_Mo_range_121 rfl (lv_at hl 0 rfl) ?_
                  refine gm_get (C := R_Mo) (T := F_Mo) (n := 44) hx hb htl i_Mo hown hK hP h_82 rfl 9 (by decide) (htl _ k_752) (fun _ h => h) rfl d_Mo_range_122 ?_
                  refine lv_iload_n hx hb d_Mo_range_125 rfl (lv_at hl 1 rfl) ?_
                  refine gz_iald hx hb hK hP 0 h_84 rfl (by omega) (by omega) d_Mo_range_126 ?_
                  rw [show (va_up (va_up mfr pt 0) pt (wth t a (i - a))) pt = (wth t a (i - a)) from va_up_self _ _ _]
                  refine gz_iast hx hb hK hP hS 0 h_83 rfl (by omega) (by omega) d_Mo_range_127 (fun H locs hP hS => ?_)
                  have he_85 : gm_up (gm_up (gm_up (gm_up M h (moO h (nI le) bp (nI nr) (nI 0) (nI tl) (nI ne) (nI nf) (nI na) (nI an) (nI tm) (nI cn) (nI cs) (nI bd) (nI lt) (nI nt) fx fy)) (h + 7) (.inl (ca 0, 3, .inl (iN (va_up (va_up mfr pt 0) pt (wth t a (i - a))))))) (h + 8) (.inl (ca 0, 3, .inl (iN (va_up mto pt 255))))) (h + 8) (.inl (ca 0, 3, .inl (iN (va_up (va_up mto pt 255) pt (wth t a (i - a)))))) = gm_up (gm_up (gm_up M h (moO h (nI le) bp (nI nr) (nI 0) (nI tl) (nI ne) (nI nf) (nI na) (nI an) (nI tm) (nI cn) (nI cs) (nI bd) (nI lt) (nI nt) fx fy)) (h + 7) (.inl (ca 0, 3, .inl (iN (va_up (va_up mfr pt 0) pt (wth t a (i - a))))))) (h + 8) (.inl (ca 0, 3, .inl (iN (va_up (va_up mto pt 255) pt (wth t a (i - a)))))) := gm_up_up _ _ _ _
                  have hP := Eq.mp (congrArg (fun Z => gm_P D cls A N Z H) he_85) hP
                  have h_86 := (congrFun he_85 _).symm.trans (gm_pass (k := (h + 8)) (y := .inl (ca 0, 3, .inl (iN (va_up (va_up mto pt 255) pt (wth t a (i - a)))))) h_81 (gm_ne h_81 h_83 (fun h => by simp at h)))
                  have h_87 := (congrFun he_85 _).symm.trans (gm_pass (k := (h + 8)) (y := .inl (ca 0, 3, .inl (iN (va_up (va_up mto pt 255) pt (wth t a (i - a)))))) h_82 (gm_ne h_82 h_83 (fun h => by cases h)))
                  have h_88 := (congrFun he_85 _).symm.trans (gm_pass (k := (h + 8)) (y := .inl (ca 0, 3, .inl (iN (va_up (va_up mto pt 255) pt (wth t a (i - a)))))) h_84 (by omega))
                  have h_89 := (congrFun he_85 _).symm.trans (gm_up_self (gm_up (gm_up (gm_up M h (moO h (nI le) bp (nI nr) (nI 0) (nI tl) (nI ne) (nI nf) (nI na) (nI an) (nI tm) (nI cn) (nI cs) (nI bd) (nI lt) (nI nt) fx fy)) (h + 7) (.inl (ca 0, 3, .inl (iN (va_up (va_up mfr pt 0) pt (wth t a (i - a))))))) (h + 8) (.inl (ca 0, 3, .inl (iN (va_up mto pt 255))))) (h + 8) (.inl (ca 0, 3, .inl (iN (va_up (va_up mto pt 255) pt (wth t a (i - a)))))))
                  refine lv_aload_n hx hb d_Mo_range_128 rfl (lv_at hl 0 rfl) ?_
                  refine lv_iconst (v := nI 1) hx hb d_Mo_range_129 (by decide) ?_
                  refine gm_put (C := R_Mo) (T := F_Mo) (n := 44) (ty := .boolean) hx hb htl i_Mo t_Mo tk_Mo n_Mo hown hK hP hS h_87 rfl 11 (by decide) (htl _ k_754) (fun _ h => h) rfl (tk_Mo 11 (by decide)) rfl rfl (Nat.le_of_ble_eq_true rfl) d_Mo_range_130 (fun H locs hP hS => ?_)
                  have he_90 : gm_up (gm_up (gm_up (gm_up M h (moO h (nI le) bp (nI nr) (nI 0) (nI tl) (nI ne) (nI nf) (nI na) (nI an) (nI tm) (nI cn) (nI cs) (nI bd) (nI lt) (nI nt) fx fy)) (h + 7) (.inl (ca 0, 3, .inl (iN (va_up (va_up mfr pt 0) pt (wth t a (i - a))))))) (h + 8) (.inl (ca 0, 3, .inl (iN (va_up (va_up mto pt 255) pt (wth t a (i - a))))))) h (moO h (nI le) bp (nI nr) (nI 1) (nI tl) (nI ne) (nI nf) (nI na) (nI an) (nI tm) (nI cn) (nI cs) (nI bd) (nI lt) (nI nt) fx fy) = gm_up (gm_up (gm_up M h (moO h (nI le) bp (nI nr) (nI 1) (nI tl) (nI ne) (nI nf) (nI na) (nI an) (nI tm) (nI cn) (nI cs) (nI bd) (nI lt) (nI nt) fx fy)) (h + 7) (.inl (ca 0, 3, .inl (iN (va_up (va_up mfr pt 0) pt (wth t a (i - a))))))) (h + 8) (.inl (ca 0, 3, .inl (iN (va_up (va_up mto pt 255) pt (wth t a (i - a)))))) := (gm_swap (gm_ne h_89 h_87 (fun h => by cases h))).trans (congrArg (fun Z => gm_up Z (h + 8) (.inl (ca 0, 3, .inl (iN (va_up (va_up mto pt 255) pt (wth t a (i - a))))))) ((gm_swap (gm_ne h_88 h_87 (fun h => by cases h))).trans (congrArg (fun Z => gm_up Z (h + 7) (.inl (ca 0, 3, .inl (iN (va_up (va_up mfr pt 0) pt (wth t a (i - a))))))) (gm_up_up _ _ _ _))))
                  have hP := Eq.mp (congrArg (fun Z => gm_P D cls A N Z H) he_90) hP
                  have h_91 := (congrFun he_90 _).symm.trans (gm_pass (k := h) (y := moO h (nI le) bp (nI nr) (nI 1) (nI tl) (nI ne) (nI nf) (nI na) (nI an) (nI tm) (nI cn) (nI cs) (nI bd) (nI lt) (nI nt) fx fy) h_86 (gm_ne h_86 h_87 (fun h => by cases h)))
                  have h_92 := (congrFun he_90 _).symm.trans (gm_pass (k := h) (y := moO h (nI le) bp (nI nr) (nI 1) (nI tl) (nI ne) (nI nf) (nI na) (nI an) (nI tm) (nI cn) (nI cs) (nI bd) (nI lt) (nI nt) fx fy) h_88 (gm_ne h_88 h_87 (fun h => by cases h)))
                  have h_93 := (congrFun he_90 _).symm.trans (gm_pass (k := h) (y := moO h (nI le) bp (nI nr) (nI 1) (nI tl) (nI ne) (nI nf) (nI na) (nI an) (nI tm) (nI cn) (nI cs) (nI bd) (nI lt) (nI nt) fx fy) h_89 (gm_ne h_89 h_87 (fun h => by cases h)))
                  have h_94 := (congrFun he_90 _).symm.trans (gm_up_self (gm_up (gm_up (gm_up M h (moO h (nI le) bp (nI nr) (nI 0) (nI tl) (nI ne) (nI nf) (nI na) (nI an) (nI tm) (nI cn) (nI cs) (nI bd) (nI lt) (nI nt) fx fy)) (h + 7) (.inl (ca 0, 3, .inl (iN (va_up (va_up mfr pt 0) pt (wth t a (i - a))))))) (h + 8) (.inl (ca 0, 3, .inl (iN (va_up (va_up mto pt 255) pt (wth t a (i - a))))))) h (moO h (nI le) bp (nI nr) (nI 1) (nI tl) (nI ne) (nI nf) (nI na) (nI an) (nI tm) (nI cn) (nI cs) (nI bd) (nI lt) (nI nt) fx fy))
                  refine lv_iload hx hb d_Mo_range_133 (lv_at hl 4 rfl) ?_
                  refine lv_iload_n hx hb d_Mo_range_135 rfl (lv_at hl 3 rfl) ?_
                  refine ln_ne (tgt := 141) hx hb d_Mo_range_136 (by decide) (by omega) (by omega) (fun c_95 => ?_) (fun c_95 => ?_)
                  · skip
                    refine lv_aload_n hx hb d_Mo_range_141 rfl (lv_at hl 0 rfl) ?_
                    refine lv_iconst (v := nI 0) hx hb d_Mo_range_142 (by decide) ?_
                    refine gm_put (C := R_Mo) (T := F_Mo) (n := 44) (ty := .boolean) hx hb htl i_Mo t_Mo tk_Mo n_Mo hown hK hP hS h_94 rfl 11 (by decide) (htl _ k_754) (fun _ h => h) rfl (tk_Mo 11 (by decide)) rfl rfl (Nat.le_of_ble_eq_true rfl) d_Mo_range_143 (fun H locs hP hS => ?_)
                    have he_96 : gm_up (gm_up (gm_up (gm_up M h (moO h (nI le) bp (nI nr) (nI 1) (nI tl) (nI ne) (nI nf) (nI na) (nI an) (nI tm) (nI cn) (nI cs) (nI bd) (nI lt) (nI nt) fx fy)) (h + 7) (.inl (ca 0, 3, .inl (iN (va_up (va_up mfr pt 0) pt (wth t a (i - a))))))) (h + 8) (.inl (ca 0, 3, .inl (iN (va_up (va_up mto pt 255) pt (wth t a (i - a))))))) h (moO h (nI le) bp (nI nr) (nI 0) (nI tl) (nI ne) (nI nf) (nI na) (nI an) (nI tm) (nI cn) (nI cs) (nI bd) (nI lt) (nI nt) fx fy) = gm_up (gm_up (gm_up M h (moO h (nI le) bp (nI nr) (nI 0) (nI tl) (nI ne) (nI nf) (nI na) (nI an) (nI tm) (nI cn) (nI cs) (nI bd) (nI lt) (nI nt) fx fy)) (h + 7) (.inl (ca 0, 3, .inl (iN (va_up (va_up mfr pt 0) pt (wth t a (i - a))))))) (h + 8) (.inl (ca 0, 3, .inl (iN (va_up (va_up mto pt 255) pt (wth t a (i - a)))))) := (gm_swap (gm_ne h_93 h_94 (fun h => by cases h))).trans (congrArg (fun Z => gm_up Z (h + 8) (.inl (ca 0, 3, .inl (iN (va_up (va_up mto pt 255) pt (wth t a (i - a))))))) ((gm_swap (gm_ne h_92 h_94 (fun h => by cases h))).trans (congrArg (fun Z => gm_up Z (h + 7) (.inl (ca 0, 3, .inl (iN (va_up (va_up mfr pt 0) pt (wth t a (i - a))))))) (gm_up_up _ _ _ _))))
                    have hP := Eq.mp (congrArg (fun Z => gm_P D cls A N Z H) he_96) hP
                    have h_97 := (congrFun he_96 _).symm.trans (gm_pass (k := h) (y := moO h (nI le) bp (nI nr) (nI 0) (nI tl) (nI ne) (nI nf) (nI na) (nI an) (nI tm) (nI cn) (nI cs) (nI bd) (nI lt) (nI nt) fx fy) h_91 (gm_ne h_91 h_94 (fun h => by cases h)))
                    have h_98 := (congrFun he_96 _).symm.trans (gm_pass (k := h) (y := moO h (nI le) bp (nI nr) (nI 0) (nI tl) (nI ne) (nI nf) (nI na) (nI an) (nI tm) (nI cn) (nI cs) (nI bd) (nI lt) (nI nt) fx fy) h_92 (gm_ne h_92 h_94 (fun h => by cases h)))
                    have h_99 := (congrFun he_96 _).symm.trans (gm_pass (k := h) (y := moO h (nI le) bp (nI nr) (nI 0) (nI tl) (nI ne) (nI nf) (nI na) (nI an) (nI tm) (nI cn) (nI cs) (nI bd) (nI lt) (nI nt) fx fy) h_93 (gm_ne h_93 h_94 (fun h => by cases h)))
                    have h_100 := (congrFun he_96 _).symm.trans (gm_up_self (gm_up (gm_up (gm_up M h (moO h (nI le) bp (nI nr) (nI 1) (nI tl) (nI ne) (nI nf) (nI na) (nI an) (nI tm) (nI cn) (nI cs) (nI bd) (nI lt) (nI nt) fx fy)) (h + 7) (.inl (ca 0, 3, .inl (iN (va_up (va_up mfr pt 0) pt (wth t a (i - a))))))) (h + 8) (.inl (ca 0, 3, .inl (iN (va_up (va_up mto pt 255) pt (wth t a (i - a))))))) h (moO h (nI le) bp (nI nr) (nI 0) (nI tl) (nI ne) (nI nf) (nI na) (nI an) (nI tm) (nI cn) (nI cs) (nI bd) (nI lt) (nI nt) fx fy))
                    refine lv_iload hx hb d_Mo_range_146 (lv_at hl 4 rfl) ?_
                    refine lv_iconst (v := nI 1) hx hb d_Mo_range_148 (by decide) ?_
                    refine lv_iadd hx hb d_Mo_range_149 ?_
                    rw [show (nI i) + (nI 1) = nI (i + 1) from nI_add _ _]
                    refine lv_iload_n hx hb d_Mo_range_150 rfl (lv_at hl 3 rfl) ?_
                    refine ln_ne (tgt := 156) hx hb d_Mo_range_151 (by decide) (by omega) (by omega) (fun c_101 => ?_) (fun c_101 => ?_)
                    · skip
                      refine lv_aload_n hx hb d_Mo_range_156 rfl (lv_at hl 0 rfl) ?_
                      refine lv_iload hx hb d_Mo_range_157 (lv_at hl 4 rfl) ?_
                      refine lv_iconst (v := nI 1) hx hb d_Mo_range_159 (by decide) ?_
                      refine lv_iadd hx hb d_Mo_range_160 ?_
                      rw [show (nI i) + (nI 1) = nI (i + 1) from nI_add _ _]
                      refine lv_iload_n hx hb d_Mo_range_161 rfl (lv_at hl 3 rfl) ?_
                      refine lv_aload_n hx hb d_Mo_range_162 rfl (lv_at hl 0 rfl) ?_
                      refine gm_get (C := R_Mo) (T := F_Mo) (n := 44) hx hb htl i_Mo hown hK hP h_100 rfl 9 (by decide) (htl _ k_752) (fun _ h => h) rfl d_Mo_range_163 ?_
                      refine lv_iload_n hx hb d_Mo_range_166 rfl (lv_at hl 1 rfl) ?_
                      refine gz_iald hx hb hK hP 0 h_98 rfl (by omega) (by omega) d_Mo_range_167 ?_
                      rw [show (va_up (va_up mfr pt 0) pt (wth t a (i - a))) pt = (wth t a (i - a)) from va_up_self _ _ _]
                      refine gc_V (q := (R_Mo, F_Mo, 44)) (n := 3) [.int (nI (i + 1)), .int (nI b), .int (nI (wth t a (i - a)))] [] hx hb hml hown hts hK hN hX hP hS (c_Mo_number (t := t) h_100 h_97 hlm (by omega) hc8 (by omega) (by omega)) rfl h_100 k_892 k_894 ks_Mo_number k_10 k_895 (by decide +kernel) ⟨by decide, by decide⟩ rfl hl.1 rfl (Nat.le_of_ble_eq_true rfl) d_Mo_range_168 ⟨by decide, by decide⟩ (fun r N1 M_102 H locs hw hP hS => ?_)
                      obtain ⟨rfl, hw⟩ := hw
                      rcases hw with ⟨c_103, rfl, rfl⟩ | ⟨c_104, rfl, rfl⟩
                      · skip
                        refine W.eq (g2 := F0 m 171 ls [.int (nI 1)]) rfl ?_
                        have hn_105 := nmB_iff.mp c_103
                        have b_106 := hn_105.1
                        have b_107 := nmb_le hn_105
                        refine lv_if_ne (tgt := 176) hx hb d_Mo_range_171 (by decide) (fun _ => ?_) (fun q => absurd q (by decide))
                        refine lv_aload_n hx hb d_Mo_range_176 rfl (lv_at hl 0 rfl) ?_
                        refine gm_get (C := R_Mo) (T := F_Mo) (n := 44) hx hb htl i_Mo hown hK hP h_100 rfl 10 (by decide) (htl _ k_753) (fun _ h => h) rfl d_Mo_range_177 ?_
                        refine lv_iload_n hx hb d_Mo_range_180 rfl (lv_at hl 1 rfl) ?_
                        refine lv_aload_n hx hb d_Mo_range_181 rfl (lv_at hl 0 rfl) ?_
                        refine lv_iload hx hb d_Mo_range_182 (lv_at hl 4 rfl) ?_
                        refine lv_iconst (v := nI 1) hx hb d_Mo_range_184 (by decide) ?_
                        refine lv_iadd hx hb d_Mo_range_185 ?_
                        rw [show (nI i) + (nI 1) = nI (i + 1) from nI_add _ _]
                        refine lv_iload_n hx hb d_Mo_range_186 rfl (lv_at hl 3 rfl) ?_
                        refine gc_V (q := (R_Mo, F_Mo, 44)) (n := 2) [.int (nI (i + 1)), .int (nI b)] [.int (nI pt), .ref (h + 8)] hx hb hml hown hts hK hN hX hP hS (c_Mo_worth (t := t) h_100 h_97 hlm (by omega) hc8 (by omega) hn_105.2.1) rfl h_100 k_896 k_898 ks_Mo_worth k_10 k_899 (by decide +kernel) ⟨by decide, by decide⟩ rfl hl.1 rfl (Nat.le_of_ble_eq_true rfl) d_Mo_range_187 ⟨by decide, by decide⟩ (fun r N1 M_108 H locs hw hP hS => ?_)
                        obtain ⟨rfl, hw⟩ := hw
                        obtain ⟨rfl, rfl⟩ := hw
                        refine W.eq (g2 := F0 m 190 ls [.int (nI (wth t (i + 1) (b - (i + 1)))), .int (nI pt), .ref (h + 8)]) rfl ?_
                        refine gz_iast hx hb hK hP hS 0 h_99 rfl (by omega) (by omega) d_Mo_range_190 (fun H locs hP hS => ?_)
                        have he_109 : gm_up (gm_up (gm_up (gm_up M h (moO h (nI le) bp (nI nr) (nI 0) (nI tl) (nI ne) (nI nf) (nI na) (nI an) (nI tm) (nI cn) (nI cs) (nI bd) (nI lt) (nI nt) fx fy)) (h + 7) (.inl (ca 0, 3, .inl (iN (va_up (va_up mfr pt 0) pt (wth t a (i - a))))))) (h + 8) (.inl (ca 0, 3, .inl (iN (va_up (va_up mto pt 255) pt (wth t a (i - a))))))) (h + 8) (.inl (ca 0, 3, .inl (iN (va_up (va_up (va_up mto pt 255) pt (wth t a (i - a))) pt (wth t (i + 1) (b - (i + 1))))))) = gm_up (gm_up (gm_up M h (moO h (nI le) bp (nI nr) (nI 0) (nI tl) (nI ne) (nI nf) (nI na) (nI an) (nI tm) (nI cn) (nI cs) (nI bd) (nI lt) (nI nt) fx fy)) (h + 7) (.inl (ca 0, 3, .inl (iN (va_up (va_up mfr pt 0) pt (wth t a (i - a))))))) (h + 8) (.inl (ca 0, 3, .inl (iN (va_up (va_up (va_up mto pt 255) pt (wth t a (i - a))) pt (wth t (i + 1) (b - (i + 1))))))) := gm_up_up _ _ _ _
                        have hP := Eq.mp (congrArg (fun Z => gm_P D cls A N Z H) he_109) hP
                        have h_110 := (congrFun he_109 _).symm.trans (gm_pass (k := (h + 8)) (y := .inl (ca 0, 3, .inl (iN (va_up (va_up (va_up mto pt 255) pt (wth t a (i - a))) pt (wth t (i + 1) (b - (i + 1))))))) h_97 (gm_ne h_97 h_99 (fun h => by simp at h)))
                        have h_111 := (congrFun he_109 _).symm.trans (gm_pass (k := (h + 8)) (y := .inl (ca 0, 3, .inl (iN (va_up (va_up (va_up mto pt 255) pt (wth t a (i - a))) pt (wth t (i + 1) (b - (i + 1))))))) h_98 (by omega))
                        have h_112 := (congrFun he_109 _).symm.trans (gm_pass (k := (h + 8)) (y := .inl (ca 0, 3, .inl (iN (va_up (va_up (va_up mto pt 255) pt (wth t a (i - a))) pt (wth t (i + 1) (b - (i + 1))))))) h_100 (gm_ne h_100 h_99 (fun h => by cases h)))
                        have h_113 := (congrFun he_109 _).symm.trans (gm_up_self (gm_up (gm_up (gm_up M h (moO h (nI le) bp (nI nr) (nI 0) (nI tl) (nI ne) (nI nf) (nI na) (nI an) (nI tm) (nI cn) (nI cs) (nI bd) (nI lt) (nI nt) fx fy)) (h + 7) (.inl (ca 0, 3, .inl (iN (va_up (va_up mfr pt 0) pt (wth t a (i - a))))))) (h + 8) (.inl (ca 0, 3, .inl (iN (va_up (va_up mto pt 255) pt (wth t a (i - a))))))) (h + 8) (.inl (ca 0, 3, .inl (iN (va_up (va_up (va_up mto pt 255) pt (wth t a (i - a))) pt (wth t (i + 1) (b - (i + 1))))))))
                        refine lv_aload_n hx hb d_Mo_range_191 rfl (lv_at hl 0 rfl) ?_
                        refine lv_aload_n hx hb d_Mo_range_192 rfl (lv_at hl 0 rfl) ?_
                        refine gm_get (C := R_Mo) (T := F_Mo) (n := 44) hx hb htl i_Mo hown hK hP h_112 rfl 10 (by decide) (htl _ k_753) (fun _ h => h) rfl d_Mo_range_193 ?_
                        refine lv_iload_n hx hb d_Mo_range_196 rfl (lv_at hl 1 rfl) ?_
                        refine gz_iald hx hb hK hP 0 h_113 rfl (by omega) (by omega) d_Mo_range_197 ?_
                        rw [show (va_up (va_up (va_up mto pt 255) pt (wth t a (i - a))) pt (wth t (i + 1) (b - (i + 1)))) pt = (wth t (i + 1) (b - (i + 1))) from va_up_self _ _ _]
                        refine lv_aload_n hx hb d_Mo_range_198 rfl (lv_at hl 0 rfl) ?_
                        refine gm_get (C := R_Mo) (T := F_Mo) (n := 44) hx hb htl i_Mo hown hK hP h_112 rfl 9 (by decide) (htl _ k_752) (fun _ h => h) rfl d_Mo_range_199 ?_
                        refine lv_iload_n hx hb d_Mo_range_202 rfl (lv_at hl 1 rfl) ?_
                        refine gz_iald hx hb hK hP 0 h_111 rfl (by omega) (by omega) d_Mo_range_203 ?_
                        rw [show (va_up (va_up mfr pt 0) pt (wth t a (i - a))) pt = (wth t a (i - a)) from va_up_self _ _ _]
                        refine ln_lt (tgt := 211) hx hb d_Mo_range_204 (by decide) (by omega) (by omega) (fun c_114 => ?_) (fun c_114 => ?_)
                        · skip
                          refine lv_iconst (v := nI 0) hx hb d_Mo_range_211 (by decide) ?_
                          refine gm_put (C := R_Mo) (T := F_Mo) (n := 44) (ty := .boolean) hx hb htl i_Mo t_Mo tk_Mo n_Mo hown hK hP hS h_112 rfl 11 (by decide) (htl _ k_754) (fun _ h => h) rfl (tk_Mo 11 (by decide)) rfl rfl (Nat.le_of_ble_eq_true rfl) d_Mo_range_212 (fun H locs hP hS => ?_)
                          have he_115 : gm_up (gm_up (gm_up (gm_up M h (moO h (nI le) bp (nI nr) (nI 0) (nI tl) (nI ne) (nI nf) (nI na) (nI an) (nI tm) (nI cn) (nI cs) (nI bd) (nI lt) (nI nt) fx fy)) (h + 7) (.inl (ca 0, 3, .inl (iN (va_up (va_up mfr pt 0) pt (wth t a (i - a))))))) (h + 8) (.inl (ca 0, 3, .inl (iN (va_up (va_up (va_up mto pt 255) pt (wth t a (i - a))) pt (wth t (i + 1) (b - (i + 1)))))))) h (moO h (nI le) bp (nI nr) (nI 0) (nI tl) (nI ne) (nI nf) (nI na) (nI an) (nI tm) (nI cn) (nI cs) (nI bd) (nI lt) (nI nt) fx fy) = gm_up (gm_up (gm_up M h (moO h (nI le) bp (nI nr) (nI 0) (nI tl) (nI ne) (nI nf) (nI na) (nI an) (nI tm) (nI cn) (nI cs) (nI bd) (nI lt) (nI nt) fx fy)) (h + 7) (.inl (ca 0, 3, .inl (iN (va_up (va_up mfr pt 0) pt (wth t a (i - a))))))) (h + 8) (.inl (ca 0, 3, .inl (iN (va_up (va_up (va_up mto pt 255) pt (wth t a (i - a))) pt (wth t (i + 1) (b - (i + 1))))))) := (gm_swap (gm_ne h_113 h_112 (fun h => by cases h))).trans (congrArg (fun Z => gm_up Z (h + 8) (.inl (ca 0, 3, .inl (iN (va_up (va_up (va_up mto pt 255) pt (wth t a (i - a))) pt (wth t (i + 1) (b - (i + 1)))))))) ((gm_swap (gm_ne h_111 h_112 (fun h => by cases h))).trans (congrArg (fun Z => gm_up Z (h + 7) (.inl (ca 0, 3, .inl (iN (va_up (va_up mfr pt 0) pt (wth t a (i - a))))))) (gm_up_up _ _ _ _))))
                          have hP := Eq.mp (congrArg (fun Z => gm_P D cls A N Z H) he_115) hP
                          have h_116 := (congrFun he_115 _).symm.trans (gm_pass (k := h) (y := moO h (nI le) bp (nI nr) (nI 0) (nI tl) (nI ne) (nI nf) (nI na) (nI an) (nI tm) (nI cn) (nI cs) (nI bd) (nI lt) (nI nt) fx fy) h_110 (gm_ne h_110 h_112 (fun h => by cases h)))
                          have h_117 := (congrFun he_115 _).symm.trans (gm_pass (k := h) (y := moO h (nI le) bp (nI nr) (nI 0) (nI tl) (nI ne) (nI nf) (nI na) (nI an) (nI tm) (nI cn) (nI cs) (nI bd) (nI lt) (nI nt) fx fy) h_111 (gm_ne h_111 h_112 (fun h => by cases h)))
                          have h_118 := (congrFun he_115 _).symm.trans (gm_pass (k := h) (y := moO h (nI le) bp (nI nr) (nI 0) (nI tl) (nI ne) (nI nf) (nI na) (nI an) (nI tm) (nI cn) (nI cs) (nI bd) (nI lt) (nI nt) fx fy) h_113 (gm_ne h_113 h_112 (fun h => by cases h)))
                          have h_119 := (congrFun he_115 _).symm.trans (gm_up_self (gm_up (gm_up (gm_up M h (moO h (nI le) bp (nI nr) (nI 0) (nI tl) (nI ne) (nI nf) (nI na) (nI an) (nI tm) (nI cn) (nI cs) (nI bd) (nI lt) (nI nt) fx fy)) (h + 7) (.inl (ca 0, 3, .inl (iN (va_up (va_up mfr pt 0) pt (wth t a (i - a))))))) (h + 8) (.inl (ca 0, 3, .inl (iN (va_up (va_up (va_up mto pt 255) pt (wth t a (i - a))) pt (wth t (i + 1) (b - (i + 1)))))))) h (moO h (nI le) bp (nI nr) (nI 0) (nI tl) (nI ne) (nI nf) (nI na) (nI an) (nI tm) (nI cn) (nI cs) (nI bd) (nI lt) (nI nt) fx fy))
                          refine lv_iconst (v := nI 1) hx hb d_Mo_range_215 (by decide) ?_
                          rw [← hQ]
                          exact gc_zret hx hb hr hlk hP hS d_Mo_range_216 rfl ⟨rfl, Or.inr (Or.inl ⟨(va_up (va_up mfr pt 0) pt (wth t a (i - a))), (va_up (va_up (va_up mto pt 255) pt (wth t a (i - a))) pt (wth t (i + 1) (b - (i + 1)))), (by unfold rgF; rw [if_neg (by omega), if_neg c_15, hfx, if_neg (by rw [c_73]; decide), if_neg (by omega), if_neg (by omega), if_neg (by omega), if_neg (by rw [c_103]; decide), if_neg (by omega)]), (fun q hq => ⟨(by simp only [va_up_ne _ _ hq]), (by simp only [va_up_ne _ _ hq])⟩), h_119, h_117, h_118, (fun z q0 q1 q2 => (gm_up_ne _ _ q2).trans ((gm_up_ne _ _ q1).trans ((gm_up_ne _ _ q0).trans (rfl)))), rfl⟩)⟩
                        · skip
                          refine lv_iconst (v := nI 1) hx hb d_Mo_range_207 (by decide) ?_
                          refine lv_goto (tgt := 212) hx hb d_Mo_range_208 (by decide) ?_
                          refine gm_put (C := R_Mo) (T := F_Mo) (n := 44) (ty := .boolean) hx hb htl i_Mo t_Mo tk_Mo n_Mo hown hK hP hS h_112 rfl 11 (by decide) (htl _ k_754) (fun _ h => h) rfl (tk_Mo 11 (by decide)) rfl rfl (Nat.le_of_ble_eq_true rfl) d_Mo_range_212 (fun H locs hP hS => ?_)
                          have he_120 : gm_up (gm_up (gm_up (gm_up M h (moO h (nI le) bp (nI nr) (nI 0) (nI tl) (nI ne) (nI nf) (nI na) (nI an) (nI tm) (nI cn) (nI cs) (nI bd) (nI lt) (nI nt) fx fy)) (h + 7) (.inl (ca 0, 3, .inl (iN (va_up (va_up mfr pt 0) pt (wth t a (i - a))))))) (h + 8) (.inl (ca 0, 3, .inl (iN (va_up (va_up (va_up mto pt 255) pt (wth t a (i - a))) pt (wth t (i + 1) (b - (i + 1)))))))) h (moO h (nI le) bp (nI nr) (nI 1) (nI tl) (nI ne) (nI nf) (nI na) (nI an) (nI tm) (nI cn) (nI cs) (nI bd) (nI lt) (nI nt) fx fy) = gm_up (gm_up (gm_up M h (moO h (nI le) bp (nI nr) (nI 1) (nI tl) (nI ne) (nI nf) (nI na) (nI an) (nI tm) (nI cn) (nI cs) (nI bd) (nI lt) (nI nt) fx fy)) (h + 7) (.inl (ca 0, 3, .inl (iN (va_up (va_up mfr pt 0) pt (wth t a (i - a))))))) (h + 8) (.inl (ca 0, 3, .inl (iN (va_up (va_up (va_up mto pt 255) pt (wth t a (i - a))) pt (wth t (i + 1) (b - (i + 1))))))) := (gm_swap (gm_ne h_113 h_112 (fun h => by cases h))).trans (congrArg (fun Z => gm_up Z (h + 8) (.inl (ca 0, 3, .inl (iN (va_up (va_up (va_up mto pt 255) pt (wth t a (i - a))) pt (wth t (i + 1) (b - (i + 1)))))))) ((gm_swap (gm_ne h_111 h_112 (fun h => by cases h))).trans (congrArg (fun Z => gm_up Z (h + 7) (.inl (ca 0, 3, .inl (iN (va_up (va_up mfr pt 0) pt (wth t a (i - a))))))) (gm_up_up _ _ _ _))))
                          have hP := Eq.mp (congrArg (fun Z => gm_P D cls A N Z H) he_120) hP
                          have h_121 := (congrFun he_120 _).symm.trans (gm_pass (k := h) (y := moO h (nI le) bp (nI nr) (nI 1) (nI tl) (nI ne) (nI nf) (nI na) (nI an) (nI tm) (nI cn) (nI cs) (nI bd) (nI lt) (nI nt) fx fy) h_110 (gm_ne h_110 h_112 (fun h => by cases h)))
                          have h_122 := (congrFun he_120 _).symm.trans (gm_pass (k := h) (y := moO h (nI le) bp (nI nr) (nI 1) (nI tl) (nI ne) (nI nf) (nI na) (nI an) (nI tm) (nI cn) (nI cs) (nI bd) (nI lt) (nI nt) fx fy) h_111 (gm_ne h_111 h_112 (fun h => by cases h)))
                          have h_123 := (congrFun he_120 _).symm.trans (gm_pass (k := h) (y := moO h (nI le) bp (nI nr) (nI 1) (nI tl) (nI ne) (nI nf) (nI na) (nI an) (nI tm) (nI cn) (nI cs) (nI bd) (nI lt) (nI nt) fx fy) h_113 (gm_ne h_113 h_112 (fun h => by cases h)))
                          have h_124 := (congrFun he_120 _).symm.trans (gm_up_self (gm_up (gm_up (gm_up M h (moO h (nI le) bp (nI nr) (nI 0) (nI tl) (nI ne) (nI nf) (nI na) (nI an) (nI tm) (nI cn) (nI cs) (nI bd) (nI lt) (nI nt) fx fy)) (h + 7) (.inl (ca 0, 3, .inl (iN (va_up (va_up mfr pt 0) pt (wth t a (i - a))))))) (h + 8) (.inl (ca 0, 3, .inl (iN (va_up (va_up (va_up mto pt 255) pt (wth t a (i - a))) pt (wth t (i + 1) (b - (i + 1)))))))) h (moO h (nI le) bp (nI nr) (nI 1) (nI tl) (nI ne) (nI nf) (nI na) (nI an) (nI tm) (nI cn) (nI cs) (nI bd) (nI lt) (nI nt) fx fy))
                          refine lv_iconst (v := nI 1) hx hb d_Mo_range_215 (by decide) ?_
                          rw [← hQ]
                          exact gc_zret hx hb hr hlk hP hS d_Mo_range_216 rfl ⟨rfl, Or.inr (Or.inr ⟨(wth t a (i - a)), (wth t (i + 1) (b - (i + 1))), (va_up (va_up mfr pt 0) pt (wth t a (i - a))), (va_up (va_up (va_up mto pt 255) pt (wth t a (i - a))) pt (wth t (i + 1) (b - (i + 1)))), (by unfold rgF; rw [if_neg (by omega), if_neg c_15, hfx, if_neg (by rw [c_73]; decide), if_neg (by omega), if_neg (by omega), if_neg (by omega), if_neg (by rw [c_103]; decide), if_pos (by omega)]), ⟨by omega, by omega⟩, ⟨va_up_self _ _ _, va_up_self _ _ _⟩, (fun q hq => ⟨(by simp only [va_up_ne _ _ hq]), (by simp only [va_up_ne _ _ hq])⟩), h_124, h_122, h_123, (fun z q0 q1 q2 => (gm_up_ne _ _ q2).trans ((gm_up_ne _ _ q1).trans ((gm_up_ne _ _ q0).trans (rfl)))), rfl⟩)⟩
                      · skip
                        refine W.eq (g2 := F0 m 171 ls [.int (nI 0)]) rfl ?_
                        refine lv_if_ne (tgt := 176) hx hb d_Mo_range_171 (by decide) (fun q => absurd q (by decide)) (fun _ => ?_)
                        refine lv_iconst (v := nI 0) hx hb d_Mo_range_174 (by decide) ?_
                        rw [← hQ]
                        exact gc_zret hx hb hr hlk hP hS d_Mo_range_175 rfl ⟨rfl, Or.inl ⟨(va_up (va_up mfr pt 0) pt (wth t a (i - a))), (va_up (va_up mto pt 255) pt (wth t a (i - a))), 0, (by unfold rgF; rw [if_neg (by omega), if_neg c_15, hfx, if_neg (by rw [c_73]; decide), if_neg (by omega), if_neg (by omega), if_neg (by omega), if_pos c_104]), (fun q hq => ⟨(by simp only [va_up_ne _ _ hq]), (by simp only [va_up_ne _ _ hq])⟩), h_100, h_98, h_99, (fun z q0 q1 q2 => (gm_up_ne _ _ q2).trans ((gm_up_ne _ _ q1).trans ((gm_up_ne _ _ q0).trans (rfl)))), rfl⟩⟩
                    · skip
                      refine lv_iconst (v := nI 1) hx hb d_Mo_range_154 (by decide) ?_
                      rw [← hQ]
                      exact gc_zret hx hb hr hlk hP hS d_Mo_range_155 rfl ⟨rfl, Or.inr (Or.inl ⟨(va_up (va_up mfr pt 0) pt (wth t a (i - a))), (va_up (va_up mto pt 255) pt (wth t a (i - a))), (by unfold rgF; rw [if_neg (by omega), if_neg c_15, hfx, if_neg (by rw [c_73]; decide), if_neg (by omega), if_neg (by omega), if_pos (by omega)]), (fun q hq => ⟨(by simp only [va_up_ne _ _ hq]), (by simp only [va_up_ne _ _ hq])⟩), h_100, h_98, h_99, (fun z q0 q1 q2 => (gm_up_ne _ _ q2).trans ((gm_up_ne _ _ q1).trans ((gm_up_ne _ _ q0).trans (rfl)))), rfl⟩)⟩
                  · skip
                    refine lv_iconst (v := nI 1) hx hb d_Mo_range_139 (by decide) ?_
                    rw [← hQ]
                    exact gc_zret hx hb hr hlk hP hS d_Mo_range_140 rfl ⟨rfl, Or.inr (Or.inr ⟨(wth t a (i - a)), (wth t a (i - a)), (va_up (va_up mfr pt 0) pt (wth t a (i - a))), (va_up (va_up mto pt 255) pt (wth t a (i - a))), (by unfold rgF; rw [if_neg (by omega), if_neg c_15, hfx, if_neg (by rw [c_73]; decide), if_neg (by omega), if_pos (by omega)]), ⟨by omega, by omega⟩, ⟨va_up_self _ _ _, va_up_self _ _ _⟩, (fun q hq => ⟨(by simp only [va_up_ne _ _ hq]), (by simp only [va_up_ne _ _ hq])⟩), h_94, h_92, h_93, (fun z q0 q1 q2 => (gm_up_ne _ _ q2).trans ((gm_up_ne _ _ q1).trans ((gm_up_ne _ _ q0).trans (rfl)))), rfl⟩)⟩
                · skip
                  refine lv_iconst (v := nI 0) hx hb d_Mo_range_101 (by decide) ?_
                  rw [← hQ]
                  exact gc_zret hx hb hr hlk hP hS d_Mo_range_102 rfl ⟨rfl, Or.inl ⟨(va_up mfr pt 0), (va_up mto pt 255), 0, (by unfold rgF; rw [if_neg (by omega), if_neg c_15, hfx, if_neg (by rw [c_73]; decide), if_pos (by omega)]), (fun q hq => ⟨(by simp only [va_up_ne _ _ hq]), (by simp only [va_up_ne _ _ hq])⟩), h_10, h_11, h_12, (fun z q0 q1 q2 => (gm_up_ne _ _ q2).trans ((gm_up_ne _ _ q1).trans ((gm_up_ne _ _ q0).trans (rfl)))), rfl⟩⟩
              · skip
                refine W.eq (g2 := F0 m 92 ls [.int (nI 0)]) rfl ?_
                refine lv_if_eq (tgt := 101) hx hb d_Mo_range_92 (by decide) (fun _ => ?_) (fun q => absurd q (by decide))
                refine lv_iconst (v := nI 0) hx hb d_Mo_range_101 (by decide) ?_
                rw [← hQ]
                exact gc_zret hx hb hr hlk hP hS d_Mo_range_102 rfl ⟨rfl, Or.inl ⟨(va_up mfr pt 0), (va_up mto pt 255), 0, (by unfold rgF; rw [if_neg (by omega), if_neg c_15, hfx, if_pos c_74]), (fun q hq => ⟨(by simp only [va_up_ne _ _ hq]), (by simp only [va_up_ne _ _ hq])⟩), h_10, h_11, h_12, (fun z q0 q1 q2 => (gm_up_ne _ _ q2).trans ((gm_up_ne _ _ q1).trans ((gm_up_ne _ _ q0).trans (rfl)))), rfl⟩⟩
            · skip
              refine lv_iinc (v := nI (i + 1)) (lv' := [(4, .int (nI (i + 1))), (0, .ref h), (1, .int (nI pt)), (2, .int (nI a)), (3, .int (nI b))]) hx hb d_Mo_range_78 hl (k := 4) rfl (nI_1 i) (by decide) rfl (fun ls hl => ?_)
              refine lv_goto (tgt := 60) hx hb d_Mo_range_81 (by decide) ?_
              exact ih_60 (i + 1) ls _ _ (by omega) (fun j p q => by by_cases z : j = i; subst z; assumption; exact hnd j p (by omega)) (by omega) hP hS (lv_sub hl [1, 2, 3, 4, 0] rfl)
      exact loop_60 (_ + 1) a ls _ locs (by omega) (fun j p q => absurd q (by omega)) (Nat.lt_succ_self _) hP hS (lv_sub hl [1, 2, 3, 4, 0] rfl)
    · skip
      refine lv_aload_n hx hb d_Mo_range_39 rfl (lv_at hl 0 rfl) ?_
      refine lv_iconst (v := nI 1) hx hb d_Mo_range_40 (by decide) ?_
      refine gm_put (C := R_Mo) (T := F_Mo) (n := 44) (ty := .boolean) hx hb htl i_Mo t_Mo tk_Mo n_Mo hown hK hP hS h_10 rfl 11 (by decide) (htl _ k_754) (fun _ h => h) rfl (tk_Mo 11 (by decide)) rfl rfl (Nat.le_of_ble_eq_true rfl) d_Mo_range_41 (fun H locs hP hS => ?_)
      have he_125 : gm_up (gm_up (gm_up (gm_up M h (moO h (nI le) bp (nI nr) (nI 0) (nI tl) (nI ne) (nI nf) (nI na) (nI an) (nI tm) (nI cn) (nI cs) (nI bd) (nI lt) (nI nt) fx fy)) (h + 7) (.inl (ca 0, 3, .inl (iN (va_up mfr pt 0))))) (h + 8) (.inl (ca 0, 3, .inl (iN (va_up mto pt 255))))) h (moO h (nI le) bp (nI nr) (nI 1) (nI tl) (nI ne) (nI nf) (nI na) (nI an) (nI tm) (nI cn) (nI cs) (nI bd) (nI lt) (nI nt) fx fy) = gm_up (gm_up (gm_up M h (moO h (nI le) bp (nI nr) (nI 1) (nI tl) (nI ne) (nI nf) (nI na) (nI an) (nI tm) (nI cn) (nI cs) (nI bd) (nI lt) (nI nt) fx fy)) (h + 7) (.inl (ca 0, 3, .inl (iN (va_up mfr pt 0))))) (h + 8) (.inl (ca 0, 3, .inl (iN (va_up mto pt 255)))) := (gm_swap (gm_ne h_12 h_10 (fun h => by cases h))).trans (congrArg (fun Z => gm_up Z (h + 8) (.inl (ca 0, 3, .inl (iN (va_up mto pt 255))))) ((gm_swap (gm_ne h_11 h_10 (fun h => by cases h))).trans (congrArg (fun Z => gm_up Z (h + 7) (.inl (ca 0, 3, .inl (iN (va_up mfr pt 0))))) (gm_up_up _ _ _ _))))
      have hP := Eq.mp (congrArg (fun Z => gm_P D cls A N Z H) he_125) hP
      have h_126 := (congrFun he_125 _).symm.trans (gm_pass (k := h) (y := moO h (nI le) bp (nI nr) (nI 1) (nI tl) (nI ne) (nI nf) (nI na) (nI an) (nI tm) (nI cn) (nI cs) (nI bd) (nI lt) (nI nt) fx fy) h_9 (gm_ne h_9 h_10 (fun h => by cases h)))
      have h_127 := (congrFun he_125 _).symm.trans (gm_pass (k := h) (y := moO h (nI le) bp (nI nr) (nI 1) (nI tl) (nI ne) (nI nf) (nI na) (nI an) (nI tm) (nI cn) (nI cs) (nI bd) (nI lt) (nI nt) fx fy) h_11 (gm_ne h_11 h_10 (fun h => by cases h)))
      have h_128 := (congrFun he_125 _).symm.trans (gm_pass (k := h) (y := moO h (nI le) bp (nI nr) (nI 1) (nI tl) (nI ne) (nI nf) (nI na) (nI an) (nI tm) (nI cn) (nI cs) (nI bd) (nI lt) (nI nt) fx fy) h_12 (gm_ne h_12 h_10 (fun h => by cases h)))
      have h_129 := (congrFun he_125 _).symm.trans (gm_up_self (gm_up (gm_up (gm_up M h (moO h (nI le) bp (nI nr) (nI 0) (nI tl) (nI ne) (nI nf) (nI na) (nI an) (nI tm) (nI cn) (nI cs) (nI bd) (nI lt) (nI nt) fx fy)) (h + 7) (.inl (ca 0, 3, .inl (iN (va_up mfr pt 0))))) (h + 8) (.inl (ca 0, 3, .inl (iN (va_up mto pt 255))))) h (moO h (nI le) bp (nI nr) (nI 1) (nI tl) (nI ne) (nI nf) (nI na) (nI an) (nI tm) (nI cn) (nI cs) (nI bd) (nI lt) (nI nt) fx fy))
      refine lv_iload_n hx hb d_Mo_range_44 rfl (lv_at hl 3 rfl) ?_
      refine lv_iload_n hx hb d_Mo_range_45 rfl (lv_at hl 2 rfl) ?_
      refine lv_iconst (v := nI 1) hx hb d_Mo_range_46 (by decide) ?_
      refine lv_iadd hx hb d_Mo_range_47 ?_
      rw [show (nI a) + (nI 1) = nI (a + 1) from nI_add _ _]
      refine ln_ne (tgt := 55) hx hb d_Mo_range_48 (by decide) (by omega) (by omega) (fun c_130 => ?_) (fun c_130 => ?_)
      · skip
        refine lv_iconst (v := nI 0) hx hb d_Mo_range_55 (by decide) ?_
        rw [← hQ]
        exact gc_zret hx hb hr hlk hP hS d_Mo_range_56 rfl ⟨rfl, Or.inl ⟨(va_up mfr pt 0), (va_up mto pt 255), 1, (by unfold rgF; rw [if_neg (by omega), if_pos c_15, if_neg (by omega)]), (fun q hq => ⟨(by simp only [va_up_ne _ _ hq]), (by simp only [va_up_ne _ _ hq])⟩), h_129, h_127, h_128, (fun z q0 q1 q2 => (gm_up_ne _ _ q2).trans ((gm_up_ne _ _ q1).trans ((gm_up_ne _ _ q0).trans (rfl)))), rfl⟩⟩
      · skip
        refine lv_iconst (v := nI 1) hx hb d_Mo_range_51 (by decide) ?_
        refine lv_goto (tgt := 56) hx hb d_Mo_range_52 (by decide) ?_
        rw [← hQ]
        exact gc_zret hx hb hr hlk hP hS d_Mo_range_56 rfl ⟨rfl, Or.inr (Or.inr ⟨0, 255, (va_up mfr pt 0), (va_up mto pt 255), (by unfold rgF; rw [if_neg (by omega), if_pos c_15, if_pos (by omega)]), ⟨by omega, by omega⟩, ⟨va_up_self _ _ _, va_up_self _ _ _⟩, (fun q hq => ⟨(by simp only [va_up_ne _ _ hq]), (by simp only [va_up_ne _ _ hq])⟩), h_129, h_127, h_128, (fun z q0 q1 q2 => (gm_up_ne _ _ q2).trans ((gm_up_ne _ _ q1).trans ((gm_up_ne _ _ q0).trans (rfl)))), rfl⟩)⟩
  · skip
    refine lv_iconst (v := nI 1) hx hb d_Mo_range_26 (by decide) ?_
    rw [← hQ]
    exact gc_zret hx hb hr hlk hP hS d_Mo_range_27 rfl ⟨rfl, Or.inr (Or.inl ⟨(va_up mfr pt 0), (va_up mto pt 255), (by unfold rgF; rw [if_pos (by omega)]), (fun q hq => ⟨(by simp only [va_up_ne _ _ hq]), (by simp only [va_up_ne _ _ hq])⟩), h_10, h_11, h_12, (fun z q0 q1 q2 => (gm_up_ne _ _ q2).trans ((gm_up_ne _ _ q1).trans ((gm_up_ne _ _ q0).trans (rfl)))), rfl⟩)⟩
set_option maxHeartbeats 4000000 in
set_option maxRecDepth 100000 in
theorem c_Mo_begins {h le nr tl ne nf na an tm cn cs bd lt nt wh : Nat} {bp fx fy : Int32} {lm : Nat → Nat} {mfr : Nat → Nat} {mto : Nat → Nat} {t : List Nat} {k : Nat} (eh : M h = some (moO h (nI le) bp (nI nr) (nI wh) (nI tl) (nI ne) (nI nf) (nI na) (nI an) (nI tm) (nI cn) (nI cs) (nI bd) (nI lt) (nI nt) fx fy)) (m1 : M (h + 1) = some (.inl (ca 0, 40, .inl (iN lm)))) (m7 : M (h + 7) = some (.inl (ca 0, 3, .inl (iN mfr)))) (m8 : M (h + 8) = some (.inl (ca 0, 3, .inl (iN mto)))) (hlm : txM lm t) (htl : t.length ≤ 40) (hc8 : ∀ i, i < t.length → t.getD i 32 < 256) (hkl : k ≤ t.length) : gC l D ca A G y_Mo_begins (.code y_Mo_begins b_Mo_begins 5 (some .boolean)) ({ frames := 3, cells := 0, slots := 0, locals := 74 }) N M [.ref h, .int (nI k)] gm_i (fun (r : Int32) (N1 : Nat) (M1 : gm_M) => N = N1 ∧ ((∃ (fr1 : Nat → Nat) (to1 : Nat → Nat) (wh1 : Nat), (bgF t k = none) ∧ M1 h = some (moO h (nI le) bp (nI nr) (nI wh1) (nI tl) (nI ne) (nI nf) (nI na) (nI an) (nI tm) (nI cn) (nI cs) (nI bd) (nI lt) (nI nt) fx fy) ∧ M1 (h + 7) = some (.inl (ca 0, 3, .inl (iN fr1))) ∧ M1 (h + 8) = some (.inl (ca 0, 3, .inl (iN to1))) ∧ (∀ z, z ≠ h → z ≠ (h + 7) → z ≠ (h + 8) → M1 z = M z) ∧ nI 0 = r) ∨ (∃ (fr1 : Nat → Nat) (to1 : Nat → Nat), (bgF t k = some none) ∧ M1 h = some (moO h (nI le) bp (nI nr) (nI 0) (nI tl) (nI ne) (nI nf) (nI na) (nI an) (nI tm) (nI cn) (nI cs) (nI bd) (nI lt) (nI nt) fx fy) ∧ M1 (h + 7) = some (.inl (ca 0, 3, .inl (iN fr1))) ∧ M1 (h + 8) = some (.inl (ca 0, 3, .inl (iN to1))) ∧ (∀ z, z ≠ h → z ≠ (h + 7) → z ≠ (h + 8) → M1 z = M z) ∧ nI 1 = r) ∨ (∃ (x1 : Nat) (x2 : Nat) (x3 : Nat) (y1 : Nat) (y2 : Nat) (y3 : Nat) (fr1 : Nat → Nat) (to1 : Nat → Nat), (bgF t k = some (some (x1, x2, x3, y1, y2, y3))) ∧ (x1 ≤ 255 ∧ x2 ≤ 255 ∧ x3 ≤ 255 ∧ y1 ≤ 255 ∧ y2 ≤ 255 ∧ y3 ≤ 255) ∧ (fr1 0 = x1 ∧ fr1 1 = x2 ∧ fr1 2 = x3 ∧ to1 0 = y1 ∧ to1 1 = y2 ∧ to1 2 = y3) ∧ M1 h = some (moO h (nI le) bp (nI nr) (nI 1) (nI tl) (nI ne) (nI nf) (nI na) (nI an) (nI tm) (nI cn) (nI cs) (nI bd) (nI lt) (nI nt) fx fy) ∧ M1 (h + 7) = some (.inl (ca 0, 3, .inl (iN fr1))) ∧ M1 (h + 8) = some (.inl (ca 0, 3, .inl (iN to1))) ∧ (∀ z, z ≠ h → z ≠ (h + 7) → z ≠ (h + 8) → M1 z = M z) ∧ nI 1 = r))) := by
  refine gm_body (by decide) (Nat.le_of_ble_eq_true rfl) (fun p e s m below meth c ls hx hb hr hts hown hlk hml hnm hP hK hN hX hS hl => ?_)
  have htl : ∀ w ∈ LW, w.before _ s = true := fun w h => hts w (List.mem_cons_of_mem _ h)
  have hown : s.vm.findClass "PacketGateModel" = some m.cls := hown
  have hl : lv_has ls 5 [(0, .ref h), (1, .int (nI k))] := hl
  generalize hQ : MQ below _ _ s _ _ A = Q
  refine lv_aload_n hx hb d_Mo_begins_0 rfl (lv_at hl 0 rfl) ?_
  refine lv_iconst (v := nI 0) hx hb d_Mo_begins_1 (by decide) ?_
  refine gm_put (C := R_Mo) (T := F_Mo) (n := 44) (ty := .boolean) hx hb htl i_Mo t_Mo tk_Mo n_Mo hown hK hP hS eh rfl 11 (by decide) (htl _ k_754) (fun _ h => h) rfl (tk_Mo 11 (by decide)) rfl rfl (Nat.le_of_ble_eq_true rfl) d_Mo_begins_2 (fun H locs hP hS => ?_)
  have hP : gm_P D cls A N (gm_up M h (moO h (nI le) bp (nI nr) (nI 0) (nI tl) (nI ne) (nI nf) (nI na) (nI an) (nI tm) (nI cn) (nI cs) (nI bd) (nI lt) (nI nt) fx fy)) H := hP
  have h_1 := gm_pass (k := h) (y := moO h (nI le) bp (nI nr) (nI 0) (nI tl) (nI ne) (nI nf) (nI na) (nI an) (nI tm) (nI cn) (nI cs) (nI bd) (nI lt) (nI nt) fx fy) m1 (gm_ne m1 eh (fun h => by cases h))
  have h_2 := gm_pass (k := h) (y := moO h (nI le) bp (nI nr) (nI 0) (nI tl) (nI ne) (nI nf) (nI na) (nI an) (nI tm) (nI cn) (nI cs) (nI bd) (nI lt) (nI nt) fx fy) m7 (gm_ne m7 eh (fun h => by cases h))
  have h_3 := gm_pass (k := h) (y := moO h (nI le) bp (nI nr) (nI 0) (nI tl) (nI ne) (nI nf) (nI na) (nI an) (nI tm) (nI cn) (nI cs) (nI bd) (nI lt) (nI nt) fx fy) m8 (gm_ne m8 eh (fun h => by cases h))
  have h_4 := gm_up_self M h (moO h (nI le) bp (nI nr) (nI 0) (nI tl) (nI ne) (nI nf) (nI na) (nI an) (nI tm) (nI cn) (nI cs) (nI bd) (nI lt) (nI nt) fx fy)
  refine w_cut (α := Unit) (P := fun u0 => 0 < k → (t.getD 0 32 = 80 ∨ t.getD 0 32 = 68 ∨ t.getD 0 32 = 83)) (nL := 5) (lv := fun u0 => [(0, .ref h), (1, .int (nI k))]) (pc2 := 44) (st2 := fun u0 => []) (fun u0 ls hl hj_44 => ?_) (fun jn_44 => ?_)
  · skip
    have hl : lv_has ls 5 [(0, .ref h), (1, .int (nI k))] := hl
    have hj_44 : 0 < k → (t.getD 0 32 = 80 ∨ t.getD 0 32 = 68 ∨ t.getD 0 32 = 83) := hj_44
    refine W.eq (g2 := F0 m 44 ls []) rfl ?_
    refine w_cut (α := Unit) (P := fun u0 => 1 < k → (t.getD 1 32 = 105 ∨ t.getD 1 32 = 111 ∨ t.getD 1 32 = 98)) (nL := 5) (lv := fun u0 => [(0, .ref h), (1, .int (nI k))]) (pc2 := 84) (st2 := fun u0 => []) (fun u0 ls hl hj_84 => ?_) (fun jn_84 => ?_)
    · skip
      have hl : lv_has ls 5 [(0, .ref h), (1, .int (nI k))] := hl
      have hj_84 : 1 < k → (t.getD 1 32 = 105 ∨ t.getD 1 32 = 111 ∨ t.getD 1 32 = 98) := hj_84
      refine W.eq (g2 := F0 m 84 ls []) rfl ?_
      refine w_cut (α := Unit) (P := fun u0 => 2 < k → (t.getD 2 32 = 116 ∨ t.getD 2 32 = 117 ∨ t.getD 2 32 = 101 ∨ t.getD 2 32 = 42)) (nL := 5) (lv := fun u0 => [(0, .ref h), (1, .int (nI k))]) (pc2 := 135) (st2 := fun u0 => []) (fun u0 ls hl hj_135 => ?_) (fun jn_135 => ?_)
      · skip
        have hl : lv_has ls 5 [(0, .ref h), (1, .int (nI k))] := hl
        have hj_135 : 2 < k → (t.getD 2 32 = 116 ∨ t.getD 2 32 = 117 ∨ t.getD 2 32 = 101 ∨ t.getD 2 32 = 42) := hj_135
        refine W.eq (g2 := F0 m 135 ls []) rfl ?_
        refine lv_iconst (v := nI 3) hx hb d_Mo_begins_135 (by decide) ?_
        refine lv_istore_n (lv' := [(2, .int (nI 3)), (0, .ref h), (1, .int (nI k))]) hx hb d_Mo_begins_136 rfl hl (by decide) rfl (fun ls hl => ?_)
        refine lv_iconst (v := nI 0) hx hb d_Mo_begins_137 (by decide) ?_
        refine lv_istore_n (lv' := [(3, .int (nI 0)), (2, .int (nI 3)), (0, .ref h), (1, .int (nI k))]) hx hb d_Mo_begins_138 rfl hl (by decide) rfl (fun ls hl => ?_)
        refine lv_iload_n hx hb d_Mo_begins_139 rfl (lv_at hl 0 rfl) ?_
        refine lv_iconst (v := nI 3) hx hb d_Mo_begins_140 (by decide) ?_
        refine lv_icmp_ge (tgt := 265) hx hb d_Mo_begins_141 (by decide) (fun q => absurd q (by decide)) (fun _ => ?_)
        refine lv_iload_n hx hb d_Mo_begins_144 rfl (lv_at hl 1 rfl) ?_
        refine lv_iload_n hx hb d_Mo_begins_145 rfl (lv_at hl 3 rfl) ?_
        refine ln_lt (tgt := 151) hx hb d_Mo_begins_146 (by decide) (by omega) (by omega) (fun c_5 => ?_) (fun c_5 => ?_)
        · skip
          refine lv_iload_n hx hb d_Mo_begins_151 rfl (lv_at hl 0 rfl) ?_
          refine lv_if_le (tgt := 168) hx hb d_Mo_begins_152 (by decide) (fun _ => ?_) (fun q => absurd q (by decide))
          refine lv_iload_n hx hb d_Mo_begins_168 rfl (lv_at hl 0 rfl) ?_
          refine lv_if_le (tgt := 175) hx hb d_Mo_begins_169 (by decide) (fun _ => ?_) (fun q => absurd q (by decide))
          refine lv_iload_n hx hb d_Mo_begins_175 rfl (lv_at hl 1 rfl) ?_
          refine lv_istore (lv' := [(4, .int (nI 3)), (3, .int (nI 0)), (2, .int (nI 3)), (0, .ref h), (1, .int (nI k))]) hx hb d_Mo_begins_176 hl (by decide) rfl (fun ls hl => ?_)
          have loop_178 : ∀ (fu : Nat) (i0 : Nat) (ls : Array Slot) (H : Heap) (locs : List Loc), (3 ≤ i0 ∧ i0 ≤ k) → (∀ j, 3 ≤ j → j < i0 → ¬ t.getD j 32 = 44) → (k - i0) < fu → gm_P D cls A N (gm_up M h (moO h (nI le) bp (nI nr) (nI 0) (nI tl) (nI ne) (nI nf) (nI na) (nI an) (nI tm) (nI cn) (nI cs) (nI bd) (nI lt) (nI nt) fx fy)) H → va_S A s.heap H locs → lv_has ls 5 [(0, .ref h), (1, .int (nI k)), (2, .int (nI 3)), (3, .int (nI 0)), (4, .int (nI i0))] → W p l e ({ frames := 3, cells := 0, slots := 0, locals := 74 }) s m ([.ref h, .int (nI k)] : List Value).toArray below meth c H locs (0) (0) Q (F0 m 178 ls []) := by
            intro fu
            induction fu with
            | zero => intro i0 ls H locs hi0 hci0 hk; exact absurd hk (Nat.not_lt_zero _)
            | succ fu ih_178 =>
              intro i0 ls H locs hi0 hci0 hk hP hS hl
              refine lv_iload hx hb d_Mo_begins_178 (lv_at hl 4 rfl) ?_
              refine lv_iload_n hx hb d_Mo_begins_180 rfl (lv_at hl 1 rfl) ?_
              refine ln_ge (tgt := 202) hx hb d_Mo_begins_181 (by decide) (by omega) (by omega) (fun c_6 => ?_) (fun c_6 => ?_)
              · skip
                have hs_7 : fxt t 44 3 k = i0 := fx_eq (by omega) (by omega) hci0 (by omega)
                refine lv_aload_n hx hb d_Mo_begins_202 rfl (lv_at hl 0 rfl) ?_
                refine lv_iload_n hx hb d_Mo_begins_203 rfl (lv_at hl 3 rfl) ?_
                refine lv_iload_n hx hb d_Mo_begins_204 rfl (lv_at hl 2 rfl) ?_
                refine lv_iload hx hb d_Mo_begins_205 (lv_at hl 4 rfl) ?_
                refine gc_V (q := (R_Mo, F_Mo, 44)) (n := 3) [.int (nI 0), .int (nI 3), .int (nI i0)] [] hx hb hml hown hts hK hN hX hP hS (c_Mo_range (t := t) h_4 h_1 h_2 h_3 hlm (by omega) hc8 (by omega) (by omega)) rfl h_4 k_888 k_890 ks_Mo_range k_10 k_891 (by decide +kernel) ⟨by decide, by decide⟩ rfl hl.1 rfl (Nat.le_of_ble_eq_true rfl) d_Mo_begins_207 ⟨by decide, by decide⟩ (fun r N1 M_8 H locs hw hP hS => ?_)
                obtain ⟨rfl, hw⟩ := hw
                rcases hw with ⟨fr1v_9, to1v_10, wh1v_11, c_12, c_13, h_14, h_15, h_16, hfr_17, rfl⟩ | ⟨fr1v_18, to1v_19, c_20, c_21, h_22, h_23, h_24, hfr_25, rfl⟩ | ⟨x0v_26, y0v_27, fr1v_28, to1v_29, c_30, c_31, c_32, c_33, h_34, h_35, h_36, hfr_37, rfl⟩
                · skip
                  have h_38 := (hfr_17 _ (gm_ne h_1 h_4 (fun h => by cases h)) (gm_ne h_1 h_2 (fun h => by simp at h)) (gm_ne h_1 h_3 (fun h => by simp at h))).trans h_1
                  refine W.eq (g2 := F0 m 210 ls [.int (nI 0)]) rfl ?_
                  refine lv_if_ne (tgt := 215) hx hb d_Mo_begins_210 (by decide) (fun q => absurd q (by decide)) (fun _ => ?_)
                  refine lv_iconst (v := nI 0) hx hb d_Mo_begins_213 (by decide) ?_
                  rw [← hQ]
                  exact gc_zret hx hb hr hlk hP hS d_Mo_begins_214 rfl ⟨rfl, Or.inl ⟨fr1v_9, to1v_10, wh1v_11, (by unfold bgF; rw [if_neg (by unfold ltB; rw [Bool.not_eq_false, decide_eq_true_iff]; exact ⟨hj_44, hj_84, hj_135⟩), if_neg (by omega), hs_7, c_12]; all_goals (first | rfl | (dsimp only; first | rfl | rw [if_pos (by omega)] | rw [if_neg (by omega)]) | rw [if_pos (by omega)] | rw [if_neg (by omega)])), h_14, h_15, h_16, (fun z q0 q1 q2 => (hfr_17 z q0 q1 q2).trans ((gm_up_ne _ _ q0).trans (rfl))), rfl⟩⟩
                · skip
                  have h_39 := (hfr_25 _ (gm_ne h_1 h_4 (fun h => by cases h)) (gm_ne h_1 h_2 (fun h => by simp at h)) (gm_ne h_1 h_3 (fun h => by simp at h))).trans h_1
                  refine W.eq (g2 := F0 m 210 ls [.int (nI 1)]) rfl ?_
                  refine lv_if_ne (tgt := 215) hx hb d_Mo_begins_210 (by decide) (fun _ => ?_) (fun q => absurd q (by decide))
                  refine lv_iload hx hb d_Mo_begins_215 (lv_at hl 4 rfl) ?_
                  refine lv_iload_n hx hb d_Mo_begins_217 rfl (lv_at hl 1 rfl) ?_
                  refine ln_ge (tgt := 230) hx hb d_Mo_begins_218 (by decide) (by omega) (by omega) (fun c_40 => ?_) (fun c_40 => ?_)
                  · skip
                    refine lv_iload hx hb d_Mo_begins_230 (lv_at hl 4 rfl) ?_
                    refine lv_istore_n (lv' := [(2, .int (nI i0)), (0, .ref h), (1, .int (nI k)), (3, .int (nI 0)), (4, .int (nI i0))]) hx hb d_Mo_begins_232 rfl hl (by decide) rfl (fun ls hl => ?_)
                    refine lv_iload_n hx hb d_Mo_begins_233 rfl (lv_at hl 0 rfl) ?_
                    refine lv_iload_n hx hb d_Mo_begins_234 rfl (lv_at hl 2 rfl) ?_
                    refine ln_lt (tgt := 259) hx hb d_Mo_begins_235 (by decide) (by omega) (by omega) (fun c_41 => ?_) (fun c_41 => ?_)
                    · omega
                    · skip
                      refine lv_aload_n hx hb d_Mo_begins_238 rfl (lv_at hl 1 rfl) ?_
                      refine lv_aload_n hx hb d_Mo_begins_239 rfl (lv_at hl 1 rfl) ?_
                      refine gm_get (C := R_Mo) (T := F_Mo) (n := 44) hx hb htl i_Mo hown hK hP h_22 rfl 11 (by decide) (htl _ k_754) (fun _ h => h) rfl d_Mo_begins_240 ?_
                      refine lv_if_eq (tgt := 255) hx hb d_Mo_begins_243 (by decide) (fun _ => ?_) (fun q => absurd q (by decide))
                      refine lv_iconst (v := nI 0) hx hb d_Mo_begins_255 (by decide) ?_
                      refine gm_put (C := R_Mo) (T := F_Mo) (n := 44) (ty := .boolean) hx hb htl i_Mo t_Mo tk_Mo n_Mo hown hK hP hS h_22 rfl 11 (by decide) (htl _ k_754) (fun _ h => h) rfl (tk_Mo 11 (by decide)) rfl rfl (Nat.le_of_ble_eq_true rfl) d_Mo_begins_256 (fun H locs hP hS => ?_)
                      have hP : gm_P D cls A N (gm_up M_8 h (moO h (nI le) bp (nI nr) (nI 0) (nI tl) (nI ne) (nI nf) (nI na) (nI an) (nI tm) (nI cn) (nI cs) (nI bd) (nI lt) (nI nt) fx fy)) H := hP
                      have h_42 := gm_pass (k := h) (y := moO h (nI le) bp (nI nr) (nI 0) (nI tl) (nI ne) (nI nf) (nI na) (nI an) (nI tm) (nI cn) (nI cs) (nI bd) (nI lt) (nI nt) fx fy) h_39 (gm_ne h_39 h_22 (fun h => by cases h))
                      have h_43 := gm_pass (k := h) (y := moO h (nI le) bp (nI nr) (nI 0) (nI tl) (nI ne) (nI nf) (nI na) (nI an) (nI tm) (nI cn) (nI cs) (nI bd) (nI lt) (nI nt) fx fy) h_23 (gm_ne h_23 h_22 (fun h => by cases h))
                      have h_44 := gm_pass (k := h) (y := moO h (nI le) bp (nI nr) (nI 0) (nI tl) (nI ne) (nI nf) (nI na) (nI an) (nI tm) (nI cn) (nI cs) (nI bd) (nI lt) (nI nt) fx fy) h_24 (gm_ne h_24 h_22 (fun h => by cases h))
                      have h_45 := gm_up_self M_8 h (moO h (nI le) bp (nI nr) (nI 0) (nI tl) (nI ne) (nI nf) (nI na) (nI an) (nI tm) (nI cn) (nI cs) (nI bd) (nI lt) (nI nt) fx fy)
                      refine lv_iinc (v := nI 1) (lv' := [(3, .int (nI 1)), (2, .int (nI i0)), (0, .ref h), (1, .int (nI k)), (4, .int (nI i0))]) hx hb d_Mo_begins_259 hl (k := 3) rfl (by decide) (by decide) rfl (fun ls hl => ?_)
                      refine lv_goto (tgt := 139) hx hb d_Mo_begins_262 (by decide) ?_
                      refine lv_iload_n hx hb d_Mo_begins_139 rfl (lv_at hl 0 rfl) ?_
                      refine lv_iconst (v := nI 3) hx hb d_Mo_begins_140 (by decide) ?_
                      refine lv_icmp_ge (tgt := 265) hx hb d_Mo_begins_141 (by decide) (fun q => absurd q (by decide)) (fun _ => ?_)
                      refine lv_iload_n hx hb d_Mo_begins_144 rfl (lv_at hl 1 rfl) ?_
                      refine lv_iload_n hx hb d_Mo_begins_145 rfl (lv_at hl 3 rfl) ?_
                      refine ln_lt (tgt := 151) hx hb d_Mo_begins_146 (by decide) (by omega) (by omega) (fun c_46 => ?_) (fun c_46 => ?_)
                      · omega
                      · skip
                        refine lv_iconst (v := nI 1) hx hb d_Mo_begins_149 (by decide) ?_
                        rw [← hQ]
                        exact gc_zret hx hb hr hlk hP hS d_Mo_begins_150 rfl ⟨rfl, Or.inr (Or.inl ⟨fr1v_18, to1v_19, (by unfold bgF; rw [if_neg (by unfold ltB; rw [Bool.not_eq_false, decide_eq_true_iff]; exact ⟨hj_44, hj_84, hj_135⟩), if_neg (by omega), hs_7, c_20]; all_goals (first | rfl | (dsimp only; first | rfl | rw [if_pos (by omega)] | rw [if_neg (by omega)]) | rw [if_pos (by omega)] | rw [if_neg (by omega)])), h_45, h_43, h_44, (fun z q0 q1 q2 => (gm_up_ne _ _ q0).trans ((hfr_25 z q0 q1 q2).trans ((gm_up_ne _ _ q0).trans (rfl)))), rfl⟩)⟩
                  · omega
                · skip
                  have h_47 := (hfr_37 _ (gm_ne h_1 h_4 (fun h => by cases h)) (gm_ne h_1 h_2 (fun h => by simp at h)) (gm_ne h_1 h_3 (fun h => by simp at h))).trans h_1
                  refine W.eq (g2 := F0 m 210 ls [.int (nI 1)]) rfl ?_
                  refine lv_if_ne (tgt := 215) hx hb d_Mo_begins_210 (by decide) (fun _ => ?_) (fun q => absurd q (by decide))
                  refine lv_iload hx hb d_Mo_begins_215 (lv_at hl 4 rfl) ?_
                  refine lv_iload_n hx hb d_Mo_begins_217 rfl (lv_at hl 1 rfl) ?_
                  refine ln_ge (tgt := 230) hx hb d_Mo_begins_218 (by decide) (by omega) (by omega) (fun c_48 => ?_) (fun c_48 => ?_)
                  · skip
                    refine lv_iload hx hb d_Mo_begins_230 (lv_at hl 4 rfl) ?_
                    refine lv_istore_n (lv' := [(2, .int (nI i0)), (0, .ref h), (1, .int (nI k)), (3, .int (nI 0)), (4, .int (nI i0))]) hx hb d_Mo_begins_232 rfl hl (by decide) rfl (fun ls hl => ?_)
                    refine lv_iload_n hx hb d_Mo_begins_233 rfl (lv_at hl 0 rfl) ?_
                    refine lv_iload_n hx hb d_Mo_begins_234 rfl (lv_at hl 2 rfl) ?_
                    refine ln_lt (tgt := 259) hx hb d_Mo_begins_235 (by decide) (by omega) (by omega) (fun c_49 => ?_) (fun c_49 => ?_)
                    · omega
                    · skip
                      refine lv_aload_n hx hb d_Mo_begins_238 rfl (lv_at hl 1 rfl) ?_
                      refine lv_aload_n hx hb d_Mo_begins_239 rfl (lv_at hl 1 rfl) ?_
                      refine gm_get (C := R_Mo) (T := F_Mo) (n := 44) hx hb htl i_Mo hown hK hP h_34 rfl 11 (by decide) (htl _ k_754) (fun _ h => h) rfl d_Mo_begins_240 ?_
                      refine lv_if_eq (tgt := 255) hx hb d_Mo_begins_243 (by decide) (fun q => absurd q (by decide)) (fun _ => ?_)
                      refine lv_iload_n hx hb d_Mo_begins_246 rfl (lv_at hl 3 rfl) ?_
                      refine lv_iconst (v := nI 2) hx hb d_Mo_begins_247 (by decide) ?_
                      refine lv_icmp_ne (tgt := 255) hx hb d_Mo_begins_248 (by decide) (fun _ => ?_) (fun q => absurd q (by decide))
                      refine lv_iconst (v := nI 0) hx hb d_Mo_begins_255 (by decide) ?_
                      refine gm_put (C := R_Mo) (T := F_Mo) (n := 44) (ty := .boolean) hx hb htl i_Mo t_Mo tk_Mo n_Mo hown hK hP hS h_34 rfl 11 (by decide) (htl _ k_754) (fun _ h => h) rfl (tk_Mo 11 (by decide)) rfl rfl (Nat.le_of_ble_eq_true rfl) d_Mo_begins_256 (fun H locs hP hS => ?_)
                      have hP : gm_P D cls A N (gm_up M_8 h (moO h (nI le) bp (nI nr) (nI 0) (nI tl) (nI ne) (nI nf) (nI na) (nI an) (nI tm) (nI cn) (nI cs) (nI bd) (nI lt) (nI nt) fx fy)) H := hP
                      have h_50 := gm_pass (k := h) (y := moO h (nI le) bp (nI nr) (nI 0) (nI tl) (nI ne) (nI nf) (nI na) (nI an) (nI tm) (nI cn) (nI cs) (nI bd) (nI lt) (nI nt) fx fy) h_47 (gm_ne h_47 h_34 (fun h => by cases h))
                      have h_51 := gm_pass (k := h) (y := moO h (nI le) bp (nI nr) (nI 0) (nI tl) (nI ne) (nI nf) (nI na) (nI an) (nI tm) (nI cn) (nI cs) (nI bd) (nI lt) (nI nt) fx fy) h_35 (gm_ne h_35 h_34 (fun h => by cases h))
                      have h_52 := gm_pass (k := h) (y := moO h (nI le) bp (nI nr) (nI 0) (nI tl) (nI ne) (nI nf) (nI na) (nI an) (nI tm) (nI cn) (nI cs) (nI bd) (nI lt) (nI nt) fx fy) h_36 (gm_ne h_36 h_34 (fun h => by cases h))
                      have h_53 := gm_up_self M_8 h (moO h (nI le) bp (nI nr) (nI 0) (nI tl) (nI ne) (nI nf) (nI na) (nI an) (nI tm) (nI cn) (nI cs) (nI bd) (nI lt) (nI nt) fx fy)
                      refine lv_iinc (v := nI 1) (lv' := [(3, .int (nI 1)), (2, .int (nI i0)), (0, .ref h), (1, .int (nI k)), (4, .int (nI i0))]) hx hb d_Mo_begins_259 hl (k := 3) rfl (by decide) (by decide) rfl (fun ls hl => ?_)
                      refine lv_goto (tgt := 139) hx hb d_Mo_begins_262 (by decide) ?_
                      refine lv_iload_n hx hb d_Mo_begins_139 rfl (lv_at hl 0 rfl) ?_
                      refine lv_iconst (v := nI 3) hx hb d_Mo_begins_140 (by decide) ?_
                      refine lv_icmp_ge (tgt := 265) hx hb d_Mo_begins_141 (by decide) (fun q => absurd q (by decide)) (fun _ => ?_)
                      refine lv_iload_n hx hb d_Mo_begins_144 rfl (lv_at hl 1 rfl) ?_
                      refine lv_iload_n hx hb d_Mo_begins_145 rfl (lv_at hl 3 rfl) ?_
                      refine ln_lt (tgt := 151) hx hb d_Mo_begins_146 (by decide) (by omega) (by omega) (fun c_54 => ?_) (fun c_54 => ?_)
                      · omega
                      · skip
                        refine lv_iconst (v := nI 1) hx hb d_Mo_begins_149 (by decide) ?_
                        rw [← hQ]
                        exact gc_zret hx hb hr hlk hP hS d_Mo_begins_150 rfl ⟨rfl, Or.inr (Or.inl ⟨fr1v_28, to1v_29, (by unfold bgF; rw [if_neg (by unfold ltB; rw [Bool.not_eq_false, decide_eq_true_iff]; exact ⟨hj_44, hj_84, hj_135⟩), if_neg (by omega), hs_7, c_30]; all_goals (first | rfl | (dsimp only; first | rfl | rw [if_pos (by omega)] | rw [if_neg (by omega)]) | rw [if_pos (by omega)] | rw [if_neg (by omega)])), h_53, h_51, h_52, (fun z q0 q1 q2 => (gm_up_ne _ _ q0).trans ((hfr_37 z q0 q1 q2).trans ((gm_up_ne _ _ q0).trans (rfl)))), rfl⟩)⟩
                  · omega
              · skip
                refine lv_aload_n hx hb d_Mo_begins_184 rfl (lv_at hl 0 rfl) ?_
                refine gm_get (C := R_Mo) (T := F_Mo) (n := 44) hx hb htl i_Mo hown hK hP h_4 rfl 0 (by decide) (htl _ k_743) (fun _ h => h) rfl d_Mo_begins_185 ?_
                refine lv_iload hx hb d_Mo_begins_188 (lv_at hl 4 rfl) ?_
                refine gz_iald hx hb hK hP 0 h_1 rfl (by omega) (by omega) d_Mo_begins_190 ?_
                rw [show lm i0 = t.getD i0 32 from txM_32 hlm (by omega)]
                have b_55 := hc8 i0 (by omega)
                refine lv_bipush (v := nI 44) hx hb d_Mo_begins_191 (by decide) ?_
                refine ln_eq (tgt := 202) hx hb d_Mo_begins_193 (by decide) (by omega) (by omega) (fun c_56 => ?_) (fun c_56 => ?_)
                · skip
                  have hs_57 : fxt t 44 3 k = i0 := fx_eq (by omega) (by omega) hci0 (by omega)
                  refine lv_aload_n hx hb d_Mo_begins_202 rfl (lv_at hl 0 rfl) ?_
                  refine lv_iload_n hx hb d_Mo_begins_203 rfl (lv_at hl 3 rfl) ?_
                  refine lv_iload_n hx hb d_Mo_begins_204 rfl (lv_at hl 2 rfl) ?_
                  refine lv_iload hx hb d_Mo_begins_205 (lv_at hl 4 rfl) ?_
                  refine gc_V (q := (R_Mo, F_Mo, 44)) (n := 3) [.int (nI 0), .int (nI 3), .int (nI i0)] [] hx hb hml hown hts hK hN hX hP hS (c_Mo_range (t := t) h_4 h_1 h_2 h_3 hlm (by omega) hc8 (by omega) (by omega)) rfl h_4 k_888 k_890 ks_Mo_range k_10 k_891 (by decide +kernel) ⟨by decide, by decide⟩ rfl hl.1 rfl (Nat.le_of_ble_eq_true rfl) d_Mo_begins_207 ⟨by decide, by decide⟩ (fun r N1 M_58 H locs hw hP hS => ?_)
                  obtain ⟨rfl, hw⟩ := hw
                  rcases hw with ⟨fr1v_59, to1v_60, wh1v_61, c_62, c_63, h_64, h_65, h_66, hfr_67, rfl⟩ | ⟨fr1v_68, to1v_69, c_70, c_71, h_72, h_73, h_74, hfr_75, rfl⟩ | ⟨x0v_76, y0v_77, fr1v_78, to1v_79, c_80, c_81, c_82, c_83, h_84, h_85, h_86, hfr_87, rfl⟩
                  · skip
                    have h_88 := (hfr_67 _ (gm_ne h_1 h_4 (fun h => by cases h)) (gm_ne h_1 h_2 (fun h => by simp at h)) (gm_ne h_1 h_3 (fun h => by simp at h))).trans h_1
                    refine W.eq (g2 := F0 m 210 ls [.int (nI 0)]) rfl ?_
                    refine lv_if_ne (tgt := 215) hx hb d_Mo_begins_210 (by decide) (fun q => absurd q (by decide)) (fun _ => ?_)
                    refine lv_iconst (v := nI 0) hx hb d_Mo_begins_213 (by decide) ?_
                    rw [← hQ]
                    exact gc_zret hx hb hr hlk hP hS d_Mo_begins_214 rfl ⟨rfl, Or.inl ⟨fr1v_59, to1v_60, wh1v_61, (by unfold bgF; rw [if_neg (by unfold ltB; rw [Bool.not_eq_false, decide_eq_true_iff]; exact ⟨hj_44, hj_84, hj_135⟩), if_neg (by omega), hs_57, c_62]; all_goals (first | rfl | (dsimp only; first | rfl | rw [if_pos (by omega)] | rw [if_neg (by omega)]) | rw [if_pos (by omega)] | rw [if_neg (by omega)])), h_64, h_65, h_66, (fun z q0 q1 q2 => (hfr_67 z q0 q1 q2).trans ((gm_up_ne _ _ q0).trans (rfl))), rfl⟩⟩
                  · skip
                    have h_89 := (hfr_75 _ (gm_ne h_1 h_4 (fun h => by cases h)) (gm_ne h_1 h_2 (fun h => by simp at h)) (gm_ne h_1 h_3 (fun h => by simp at h))).trans h_1
                    refine W.eq (g2 := F0 m 210 ls [.int (nI 1)]) rfl ?_
                    refine lv_if_ne (tgt := 215) hx hb d_Mo_begins_210 (by decide) (fun _ => ?_) (fun q => absurd q (by decide))
                    refine lv_iload hx hb d_Mo_begins_215 (lv_at hl 4 rfl) ?_
                    refine lv_iload_n hx hb d_Mo_begins_217 rfl (lv_at hl 1 rfl) ?_
                    refine ln_ge (tgt := 230) hx hb d_Mo_begins_218 (by decide) (by omega) (by omega) (fun c_90 => ?_) (fun c_90 => ?_)
                    · omega
                    · skip
                      refine lv_aload_n hx hb d_Mo_begins_221 rfl (lv_at hl 0 rfl) ?_
                      refine gm_get (C := R_Mo) (T := F_Mo) (n := 44) hx hb htl i_Mo hown hK hP h_72 rfl 11 (by decide) (htl _ k_754) (fun _ h => h) rfl d_Mo_begins_222 ?_
                      refine lv_if_ne (tgt := 230) hx hb d_Mo_begins_225 (by decide) (fun q => absurd q (by decide)) (fun _ => ?_)
                      refine lv_iconst (v := nI 0) hx hb d_Mo_begins_228 (by decide) ?_
                      rw [← hQ]
                      exact gc_zret hx hb hr hlk hP hS d_Mo_begins_229 rfl ⟨rfl, Or.inl ⟨fr1v_68, to1v_69, 0, (by unfold bgF; rw [if_neg (by unfold ltB; rw [Bool.not_eq_false, decide_eq_true_iff]; exact ⟨hj_44, hj_84, hj_135⟩), if_neg (by omega), hs_57, c_70]; all_goals (first | rfl | (dsimp only; first | rfl | rw [if_pos (by omega)] | rw [if_neg (by omega)]) | rw [if_pos (by omega)] | rw [if_neg (by omega)])), h_72, h_73, h_74, (fun z q0 q1 q2 => (hfr_75 z q0 q1 q2).trans ((gm_up_ne _ _ q0).trans (rfl))), rfl⟩⟩
                  · skip
                    have h_91 := (hfr_87 _ (gm_ne h_1 h_4 (fun h => by cases h)) (gm_ne h_1 h_2 (fun h => by simp at h)) (gm_ne h_1 h_3 (fun h => by simp at h))).trans h_1
                    refine W.eq (g2 := F0 m 210 ls [.int (nI 1)]) rfl ?_
                    refine lv_if_ne (tgt := 215) hx hb d_Mo_begins_210 (by decide) (fun _ => ?_) (fun q => absurd q (by decide))
                    refine lv_iload hx hb d_Mo_begins_215 (lv_at hl 4 rfl) ?_
                    refine lv_iload_n hx hb d_Mo_begins_217 rfl (lv_at hl 1 rfl) ?_
                    refine ln_ge (tgt := 230) hx hb d_Mo_begins_218 (by decide) (by omega) (by omega) (fun c_92 => ?_) (fun c_92 => ?_)
                    · omega
                    · skip
                      refine lv_aload_n hx hb d_Mo_begins_221 rfl (lv_at hl 0 rfl) ?_
                      refine gm_get (C := R_Mo) (T := F_Mo) (n := 44) hx hb htl i_Mo hown hK hP h_84 rfl 11 (by decide) (htl _ k_754) (fun _ h => h) rfl d_Mo_begins_222 ?_
                      refine lv_if_ne (tgt := 230) hx hb d_Mo_begins_225 (by decide) (fun _ => ?_) (fun q => absurd q (by decide))
                      refine lv_iload hx hb d_Mo_begins_230 (lv_at hl 4 rfl) ?_
                      refine lv_istore_n (lv' := [(2, .int (nI i0)), (0, .ref h), (1, .int (nI k)), (3, .int (nI 0)), (4, .int (nI i0))]) hx hb d_Mo_begins_232 rfl hl (by decide) rfl (fun ls hl => ?_)
                      refine lv_iload_n hx hb d_Mo_begins_233 rfl (lv_at hl 0 rfl) ?_
                      refine lv_iload_n hx hb d_Mo_begins_234 rfl (lv_at hl 2 rfl) ?_
                      refine ln_lt (tgt := 259) hx hb d_Mo_begins_235 (by decide) (by omega) (by omega) (fun c_93 => ?_) (fun c_93 => ?_)
                      · skip
                        refine lv_iinc (v := nI 1) (lv' := [(3, .int (nI 1)), (2, .int (nI i0)), (0, .ref h), (1, .int (nI k)), (4, .int (nI i0))]) hx hb d_Mo_begins_259 hl (k := 3) rfl (by decide) (by decide) rfl (fun ls hl => ?_)
                        refine lv_goto (tgt := 139) hx hb d_Mo_begins_262 (by decide) ?_
                        refine lv_iload_n hx hb d_Mo_begins_139 rfl (lv_at hl 0 rfl) ?_
                        refine lv_iconst (v := nI 3) hx hb d_Mo_begins_140 (by decide) ?_
                        refine lv_icmp_ge (tgt := 265) hx hb d_Mo_begins_141 (by decide) (fun q => absurd q (by decide)) (fun _ => ?_)
                        refine lv_iload_n hx hb d_Mo_begins_144 rfl (lv_at hl 1 rfl) ?_
                        refine lv_iload_n hx hb d_Mo_begins_145 rfl (lv_at hl 3 rfl) ?_
                        refine ln_lt (tgt := 151) hx hb d_Mo_begins_146 (by decide) (by omega) (by omega) (fun c_94 => ?_) (fun c_94 => ?_)
                        · skip
                          refine lv_iload_n hx hb d_Mo_begins_151 rfl (lv_at hl 0 rfl) ?_
                          refine lv_if_le (tgt := 168) hx hb d_Mo_begins_152 (by decide) (fun q => absurd q (by decide)) (fun _ => ?_)
                          refine lv_aload_n hx hb d_Mo_begins_155 rfl (lv_at hl 2 rfl) ?_
                          refine gm_get (C := R_Mo) (T := F_Mo) (n := 44) hx hb htl i_Mo hown hK hP h_84 rfl 0 (by decide) (htl _ k_743) (fun _ h => h) rfl d_Mo_begins_156 ?_
                          refine lv_iload_n hx hb d_Mo_begins_159 rfl (lv_at hl 1 rfl) ?_
                          refine gz_iald hx hb hK hP 0 h_91 rfl (by omega) (by omega) d_Mo_begins_160 ?_
                          rw [show lm i0 = t.getD i0 32 from txM_32 hlm (by omega)]
                          have b_95 := hc8 i0 (by omega)
                          refine lv_bipush (v := nI 44) hx hb d_Mo_begins_161 (by decide) ?_
                          refine ln_eq (tgt := 168) hx hb d_Mo_begins_163 (by decide) (by omega) (by omega) (fun c_96 => ?_) (fun c_96 => ?_)
                          · skip
                            refine lv_iload_n hx hb d_Mo_begins_168 rfl (lv_at hl 0 rfl) ?_
                            refine lv_if_le (tgt := 175) hx hb d_Mo_begins_169 (by decide) (fun q => absurd q (by decide)) (fun _ => ?_)
                            refine lv_iinc (v := nI (i0 + 1)) (lv' := [(2, .int (nI (i0 + 1))), (3, .int (nI 1)), (0, .ref h), (1, .int (nI k)), (4, .int (nI i0))]) hx hb d_Mo_begins_172 hl (k := 1) rfl (nI_1 i0) (by decide) rfl (fun ls hl => ?_)
                            refine lv_iload_n hx hb d_Mo_begins_175 rfl (lv_at hl 0 rfl) ?_
                            refine lv_istore (lv' := [(4, .int (nI (i0 + 1))), (2, .int (nI (i0 + 1))), (3, .int (nI 1)), (0, .ref h), (1, .int (nI k))]) hx hb d_Mo_begins_176 hl (by decide) rfl (fun ls hl => ?_)
                            have loop_178 : ∀ (fu : Nat) (i1 : Nat) (ls : Array Slot) (H : Heap) (locs : List Loc), (i0 + 1 ≤ i1 ∧ i1 ≤ k) → (∀ j, i0 + 1 ≤ j → j < i1 → ¬ t.getD j 32 = 44) → (k - i1) < fu → gm_P D cls A N M_58 H → va_S A s.heap H locs → lv_has ls 5 [(0, .ref h), (1, .int (nI k)), (2, .int (nI (i0 + 1))), (3, .int (nI 1)), (4, .int (nI i1))] → W p l e ({ frames := 3, cells := 0, slots := 0, locals := 74 }) s m ([.ref h, .int (nI k)] : List Value).toArray below meth c H locs (0) (0) Q (F0 m 178 ls []) := by
                              intro fu
                              induction fu with
                              | zero => intro i1 ls H locs hi1 hci1 hk; exact absurd hk (Nat.not_lt_zero _)
                              | succ fu ih_178 =>
                                intro i1 ls H locs hi1 hci1 hk hP hS hl
                                refine lv_iload hx hb d_Mo_begins_178 (lv_at hl 4 rfl) ?_
                                refine lv_iload_n hx hb d_Mo_begins_180 rfl (lv_at hl 1 rfl) ?_
                                refine ln_ge (tgt := 202) hx hb d_Mo_begins_181 (by decide) (by omega) (by omega) (fun c_97 => ?_) (fun c_97 => ?_)
                                · skip
                                  have hs_98 : fxt t 44 (i0 + 1) k = i1 := fx_eq (by omega) (by omega) hci1 (by omega)
                                  refine lv_aload_n hx hb d_Mo_begins_202 rfl (lv_at hl 0 rfl) ?_
                                  refine lv_iload_n hx hb d_Mo_begins_203 rfl (lv_at hl 3 rfl) ?_
                                  refine lv_iload_n hx hb d_Mo_begins_204 rfl (lv_at hl 2 rfl) ?_
                                  refine lv_iload hx hb d_Mo_begins_205 (lv_at hl 4 rfl) ?_
                                  refine gc_V (q := (R_Mo, F_Mo, 44)) (n := 3) [.int (nI 1), .int (nI (i0 + 1)), .int (nI i1)] [] hx hb hml hown hts hK hN hX hP hS (c_Mo_range (t := t) h_84 h_91 h_85 h_86 hlm (by omega) hc8 (by omega) (by omega)) rfl h_84 k_888 k_890 ks_Mo_range k_10 k_891 (by decide +kernel) ⟨by decide, by decide⟩ rfl hl.1 rfl (Nat.le_of_ble_eq_true rfl) d_Mo_begins_207 ⟨by decide, by decide⟩ (fun r N1 M_99 H locs hw hP hS => ?_)
                                  obtain ⟨rfl, hw⟩ := hw
                                  rcases hw with ⟨fr1v_100, to1v_101, wh1v_102, c_103, c_104, h_105, h_106, h_107, hfr_108, rfl⟩ | ⟨fr1v_109, to1v_110, c_111, c_112, h_113, h_114, h_115, hfr_116, rfl⟩ | ⟨x0v_117, y0v_118, fr1v_119, to1v_120, c_121, c_122, c_123, c_124, h_125, h_126, h_127, hfr_128, rfl⟩
                                  · skip
                                    have h_129 := (hfr_108 _ (gm_ne h_91 h_84 (fun h => by cases h)) (gm_ne h_91 h_85 (fun h => by simp at h)) (gm_ne h_91 h_86 (fun h => by simp at h))).trans h_91
                                    refine W.eq (g2 := F0 m 210 ls [.int (nI 0)]) rfl ?_
                                    refine lv_if_ne (tgt := 215) hx hb d_Mo_begins_210 (by decide) (fun q => absurd q (by decide)) (fun _ => ?_)
                                    refine lv_iconst (v := nI 0) hx hb d_Mo_begins_213 (by decide) ?_
                                    rw [← hQ]
                                    exact gc_zret hx hb hr hlk hP hS d_Mo_begins_214 rfl ⟨rfl, Or.inl ⟨fr1v_100, to1v_101, wh1v_102, (by unfold bgF; rw [if_neg (by unfold ltB; rw [Bool.not_eq_false, decide_eq_true_iff]; exact ⟨hj_44, hj_84, hj_135⟩), if_neg (by omega), hs_57, c_80]; (try dsimp only); rw [if_neg (by omega), hs_98, c_103]; all_goals (first | rfl | (dsimp only; first | rfl | rw [if_pos (by omega)] | rw [if_neg (by omega)]) | rw [if_pos (by omega)] | rw [if_neg (by omega)])), h_105, h_106, h_107, (fun z q0 q1 q2 => (hfr_108 z q0 q1 q2).trans ((hfr_87 z q0 q1 q2).trans ((gm_up_ne _ _ q0).trans (rfl)))), rfl⟩⟩
                                  · skip
                                    have h_130 := (hfr_116 _ (gm_ne h_91 h_84 (fun h => by cases h)) (gm_ne h_91 h_85 (fun h => by simp at h)) (gm_ne h_91 h_86 (fun h => by simp at h))).trans h_91
                                    refine W.eq (g2 := F0 m 210 ls [.int (nI 1)]) rfl ?_
                                    refine lv_if_ne (tgt := 215) hx hb d_Mo_begins_210 (by decide) (fun _ => ?_) (fun q => absurd q (by decide))
                                    refine lv_iload hx hb d_Mo_begins_215 (lv_at hl 4 rfl) ?_
                                    refine lv_iload_n hx hb d_Mo_begins_217 rfl (lv_at hl 1 rfl) ?_
                                    refine ln_ge (tgt := 230) hx hb d_Mo_begins_218 (by decide) (by omega) (by omega) (fun c_131 => ?_) (fun c_131 => ?_)
                                    · skip
                                      refine lv_iload hx hb d_Mo_begins_230 (lv_at hl 4 rfl) ?_
                                      refine lv_istore_n (lv' := [(2, .int (nI i1)), (0, .ref h), (1, .int (nI k)), (3, .int (nI 1)), (4, .int (nI i1))]) hx hb d_Mo_begins_232 rfl hl (by decide) rfl (fun ls hl => ?_)
                                      refine lv_iload_n hx hb d_Mo_begins_233 rfl (lv_at hl 0 rfl) ?_
                                      refine lv_iload_n hx hb d_Mo_begins_234 rfl (lv_at hl 2 rfl) ?_
                                      refine ln_lt (tgt := 259) hx hb d_Mo_begins_235 (by decide) (by omega) (by omega) (fun c_132 => ?_) (fun c_132 => ?_)
                                      · omega
                                      · skip
                                        refine lv_aload_n hx hb d_Mo_begins_238 rfl (lv_at hl 1 rfl) ?_
                                        refine lv_aload_n hx hb d_Mo_begins_239 rfl (lv_at hl 1 rfl) ?_
                                        refine gm_get (C := R_Mo) (T := F_Mo) (n := 44) hx hb htl i_Mo hown hK hP h_113 rfl 11 (by decide) (htl _ k_754) (fun _ h => h) rfl d_Mo_begins_240 ?_
                                        refine lv_if_eq (tgt := 255) hx hb d_Mo_begins_243 (by decide) (fun _ => ?_) (fun q => absurd q (by decide))
                                        refine lv_iconst (v := nI 0) hx hb d_Mo_begins_255 (by decide) ?_
                                        refine gm_put (C := R_Mo) (T := F_Mo) (n := 44) (ty := .boolean) hx hb htl i_Mo t_Mo tk_Mo n_Mo hown hK hP hS h_113 rfl 11 (by decide) (htl _ k_754) (fun _ h => h) rfl (tk_Mo 11 (by decide)) rfl rfl (Nat.le_of_ble_eq_true rfl) d_Mo_begins_256 (fun H locs hP hS => ?_)
                                        have hP : gm_P D cls A N (gm_up M_99 h (moO h (nI le) bp (nI nr) (nI 0) (nI tl) (nI ne) (nI nf) (nI na) (nI an) (nI tm) (nI cn) (nI cs) (nI bd) (nI lt) (nI nt) fx fy)) H := hP
                                        have h_133 := gm_pass (k := h) (y := moO h (nI le) bp (nI nr) (nI 0) (nI tl) (nI ne) (nI nf) (nI na) (nI an) (nI tm) (nI cn) (nI cs) (nI bd) (nI lt) (nI nt) fx fy) h_130 (gm_ne h_130 h_113 (fun h => by cases h))
                                        have h_134 := gm_pass (k := h) (y := moO h (nI le) bp (nI nr) (nI 0) (nI tl) (nI ne) (nI nf) (nI na) (nI an) (nI tm) (nI cn) (nI cs) (nI bd) (nI lt) (nI nt) fx fy) h_114 (gm_ne h_114 h_113 (fun h => by cases h))
                                        have h_135 := gm_pass (k := h) (y := moO h (nI le) bp (nI nr) (nI 0) (nI tl) (nI ne) (nI nf) (nI na) (nI an) (nI tm) (nI cn) (nI cs) (nI bd) (nI lt) (nI nt) fx fy) h_115 (gm_ne h_115 h_113 (fun h => by cases h))
                                        have h_136 := gm_up_self M_99 h (moO h (nI le) bp (nI nr) (nI 0) (nI tl) (nI ne) (nI nf) (nI na) (nI an) (nI tm) (nI cn) (nI cs) (nI bd) (nI lt) (nI nt) fx fy)
                                        refine lv_iinc (v := nI 2) (lv' := [(3, .int (nI 2)), (2, .int (nI i1)), (0, .ref h), (1, .int (nI k)), (4, .int (nI i1))]) hx hb d_Mo_begins_259 hl (k := 3) rfl (by decide) (by decide) rfl (fun ls hl => ?_)
                                        refine lv_goto (tgt := 139) hx hb d_Mo_begins_262 (by decide) ?_
                                        refine lv_iload_n hx hb d_Mo_begins_139 rfl (lv_at hl 0 rfl) ?_
                                        refine lv_iconst (v := nI 3) hx hb d_Mo_begins_140 (by decide) ?_
                                        refine lv_icmp_ge (tgt := 265) hx hb d_Mo_begins_141 (by decide) (fun q => absurd q (by decide)) (fun _ => ?_)
                                        refine lv_iload_n hx hb d_Mo_begins_144 rfl (lv_at hl 1 rfl) ?_
                                        refine lv_iload_n hx hb d_Mo_begins_145 rfl (lv_at hl 3 rfl) ?_
                                        refine ln_lt (tgt := 151) hx hb d_Mo_begins_146 (by decide) (by omega) (by omega) (fun c_137 => ?_) (fun c_137 => ?_)
                                        · omega
                                        · skip
                                          refine lv_iconst (v := nI 1) hx hb d_Mo_begins_149 (by decide) ?_
                                          rw [← hQ]
                                          exact gc_zret hx hb hr hlk hP hS d_Mo_begins_150 rfl ⟨rfl, Or.inr (Or.inl ⟨fr1v_109, to1v_110, (by unfold bgF; rw [if_neg (by unfold ltB; rw [Bool.not_eq_false, decide_eq_true_iff]; exact ⟨hj_44, hj_84, hj_135⟩), if_neg (by omega), hs_57, c_80]; (try dsimp only); rw [if_neg (by omega), hs_98, c_111]; all_goals (first | rfl | (dsimp only; first | rfl | rw [if_pos (by omega)] | rw [if_neg (by omega)]) | rw [if_pos (by omega)] | rw [if_neg (by omega)])), h_136, h_134, h_135, (fun z q0 q1 q2 => (gm_up_ne _ _ q0).trans ((hfr_116 z q0 q1 q2).trans ((hfr_87 z q0 q1 q2).trans ((gm_up_ne _ _ q0).trans (rfl))))), rfl⟩)⟩
                                    · omega
                                  · skip
                                    have h_138 := (hfr_128 _ (gm_ne h_91 h_84 (fun h => by cases h)) (gm_ne h_91 h_85 (fun h => by simp at h)) (gm_ne h_91 h_86 (fun h => by simp at h))).trans h_91
                                    refine W.eq (g2 := F0 m 210 ls [.int (nI 1)]) rfl ?_
                                    refine lv_if_ne (tgt := 215) hx hb d_Mo_begins_210 (by decide) (fun _ => ?_) (fun q => absurd q (by decide))
                                    refine lv_iload hx hb d_Mo_begins_215 (lv_at hl 4 rfl) ?_
                                    refine lv_iload_n hx hb d_Mo_begins_217 rfl (lv_at hl 1 rfl) ?_
                                    refine ln_ge (tgt := 230) hx hb d_Mo_begins_218 (by decide) (by omega) (by omega) (fun c_139 => ?_) (fun c_139 => ?_)
                                    · skip
                                      refine lv_iload hx hb d_Mo_begins_230 (lv_at hl 4 rfl) ?_
                                      refine lv_istore_n (lv' := [(2, .int (nI i1)), (0, .ref h), (1, .int (nI k)), (3, .int (nI 1)), (4, .int (nI i1))]) hx hb d_Mo_begins_232 rfl hl (by decide) rfl (fun ls hl => ?_)
                                      refine lv_iload_n hx hb d_Mo_begins_233 rfl (lv_at hl 0 rfl) ?_
                                      refine lv_iload_n hx hb d_Mo_begins_234 rfl (lv_at hl 2 rfl) ?_
                                      refine ln_lt (tgt := 259) hx hb d_Mo_begins_235 (by decide) (by omega) (by omega) (fun c_140 => ?_) (fun c_140 => ?_)
                                      · omega
                                      · skip
                                        refine lv_aload_n hx hb d_Mo_begins_238 rfl (lv_at hl 1 rfl) ?_
                                        refine lv_aload_n hx hb d_Mo_begins_239 rfl (lv_at hl 1 rfl) ?_
                                        refine gm_get (C := R_Mo) (T := F_Mo) (n := 44) hx hb htl i_Mo hown hK hP h_125 rfl 11 (by decide) (htl _ k_754) (fun _ h => h) rfl d_Mo_begins_240 ?_
                                        refine lv_if_eq (tgt := 255) hx hb d_Mo_begins_243 (by decide) (fun q => absurd q (by decide)) (fun _ => ?_)
                                        refine lv_iload_n hx hb d_Mo_begins_246 rfl (lv_at hl 3 rfl) ?_
                                        refine lv_iconst (v := nI 2) hx hb d_Mo_begins_247 (by decide) ?_
                                        refine lv_icmp_ne (tgt := 255) hx hb d_Mo_begins_248 (by decide) (fun _ => ?_) (fun q => absurd q (by decide))
                                        refine lv_iconst (v := nI 0) hx hb d_Mo_begins_255 (by decide) ?_
                                        refine gm_put (C := R_Mo) (T := F_Mo) (n := 44) (ty := .boolean) hx hb htl i_Mo t_Mo tk_Mo n_Mo hown hK hP hS h_125 rfl 11 (by decide) (htl _ k_754) (fun _ h => h) rfl (tk_Mo 11 (by decide)) rfl rfl (Nat.le_of_ble_eq_true rfl) d_Mo_begins_256 (fun H locs hP hS => ?_)
                                        have hP : gm_P D cls A N (gm_up M_99 h (moO h (nI le) bp (nI nr) (nI 0) (nI tl) (nI ne) (nI nf) (nI na) (nI an) (nI tm) (nI cn) (nI cs) (nI bd) (nI lt) (nI nt) fx fy)) H := hP
                                        have h_141 := gm_pass (k := h) (y := moO h (nI le) bp (nI nr) (nI 0) (nI tl) (nI ne) (nI nf) (nI na) (nI an) (nI tm) (nI cn) (nI cs) (nI bd) (nI lt) (nI nt) fx fy) h_138 (gm_ne h_138 h_125 (fun h => by cases h))
                                        have h_142 := gm_pass (k := h) (y := moO h (nI le) bp (nI nr) (nI 0) (nI tl) (nI ne) (nI nf) (nI na) (nI an) (nI tm) (nI cn) (nI cs) (nI bd) (nI lt) (nI nt) fx fy) h_126 (gm_ne h_126 h_125 (fun h => by cases h))
                                        have h_143 := gm_pass (k := h) (y := moO h (nI le) bp (nI nr) (nI 0) (nI tl) (nI ne) (nI nf) (nI na) (nI an) (nI tm) (nI cn) (nI cs) (nI bd) (nI lt) (nI nt) fx fy) h_127 (gm_ne h_127 h_125 (fun h => by cases h))
                                        have h_144 := gm_up_self M_99 h (moO h (nI le) bp (nI nr) (nI 0) (nI tl) (nI ne) (nI nf) (nI na) (nI an) (nI tm) (nI cn) (nI cs) (nI bd) (nI lt) (nI nt) fx fy)
                                        refine lv_iinc (v := nI 2) (lv' := [(3, .int (nI 2)), (2, .int (nI i1)), (0, .ref h), (1, .int (nI k)), (4, .int (nI i1))]) hx hb d_Mo_begins_259 hl (k := 3) rfl (by decide) (by decide) rfl (fun ls hl => ?_)
                                        refine lv_goto (tgt := 139) hx hb d_Mo_begins_262 (by decide) ?_
                                        refine lv_iload_n hx hb d_Mo_begins_139 rfl (lv_at hl 0 rfl) ?_
                                        refine lv_iconst (v := nI 3) hx hb d_Mo_begins_140 (by decide) ?_
                                        refine lv_icmp_ge (tgt := 265) hx hb d_Mo_begins_141 (by decide) (fun q => absurd q (by decide)) (fun _ => ?_)
                                        refine lv_iload_n hx hb d_Mo_begins_144 rfl (lv_at hl 1 rfl) ?_
                                        refine lv_iload_n hx hb d_Mo_begins_145 rfl (lv_at hl 3 rfl) ?_
                                        refine ln_lt (tgt := 151) hx hb d_Mo_begins_146 (by decide) (by omega) (by omega) (fun c_145 => ?_) (fun c_145 => ?_)
                                        · omega
                                        · skip
                                          refine lv_iconst (v := nI 1) hx hb d_Mo_begins_149 (by decide) ?_
                                          rw [← hQ]
                                          exact gc_zret hx hb hr hlk hP hS d_Mo_begins_150 rfl ⟨rfl, Or.inr (Or.inl ⟨fr1v_119, to1v_120, (by unfold bgF; rw [if_neg (by unfold ltB; rw [Bool.not_eq_false, decide_eq_true_iff]; exact ⟨hj_44, hj_84, hj_135⟩), if_neg (by omega), hs_57, c_80]; (try dsimp only); rw [if_neg (by omega), hs_98, c_121]; all_goals (first | rfl | (dsimp only; first | rfl | rw [if_pos (by omega)] | rw [if_neg (by omega)]) | rw [if_pos (by omega)] | rw [if_neg (by omega)])), h_144, h_142, h_143, (fun z q0 q1 q2 => (gm_up_ne _ _ q0).trans ((hfr_128 z q0 q1 q2).trans ((hfr_87 z q0 q1 q2).trans ((gm_up_ne _ _ q0).trans (rfl))))), rfl⟩)⟩
                                    · omega
                                · skip
                                  refine lv_aload_n hx hb d_Mo_begins_184 rfl (lv_at hl 0 rfl) ?_
                                  refine gm_get (C := R_Mo) (T := F_Mo) (n := 44) hx hb htl i_Mo hown hK hP h_84 rfl 0 (by decide) (htl _ k_743) (fun _ h => h) rfl d_Mo_begins_185 ?_
                                  refine lv_iload hx hb d_Mo_begins_188 (lv_at hl 4 rfl) ?_
                                  refine gz_iald hx hb hK hP 0 h_91 rfl (by omega) (by omega) d_Mo_begins_190 ?_
                                  rw [show lm i1 = t.getD i1 32 from txM_32 hlm (by omega)]
                                  have b_146 := hc8 i1 (by omega)
                                  refine lv_bipush (v := nI 44) hx hb d_Mo_begins_191 (by decide) ?_
                                  refine ln_eq (tgt := 202) hx hb d_Mo_begins_193 (by decide) (by omega) (by omega) (fun c_147 => ?_) (fun c_147 => ?_)
                                  · skip
                                    have hs_148 : fxt t 44 (i0 + 1) k = i1 := fx_eq (by omega) (by omega) hci1 (by omega)
                                    refine lv_aload_n hx hb d_Mo_begins_202 rfl (lv_at hl 0 rfl) ?_
                                    refine lv_iload_n hx hb d_Mo_begins_203 rfl (lv_at hl 3 rfl) ?_
                                    refine lv_iload_n hx hb d_Mo_begins_204 rfl (lv_at hl 2 rfl) ?_
                                    refine lv_iload hx hb d_Mo_begins_205 (lv_at hl 4 rfl) ?_
                                    refine gc_V (q := (R_Mo, F_Mo, 44)) (n := 3) [.int (nI 1), .int (nI (i0 + 1)), .int (nI i1)] [] hx hb hml hown hts hK hN hX hP hS (c_Mo_range (t := t) h_84 h_91 h_85 h_86 hlm (by omega) hc8 (by omega) (by omega)) rfl h_84 k_888 k_890 ks_Mo_range k_10 k_891 (by decide +kernel) ⟨by decide, by decide⟩ rfl hl.1 rfl (Nat.le_of_ble_eq_true rfl) d_Mo_begins_207 ⟨by decide, by decide⟩ (fun r N1 M_149 H locs hw hP hS => ?_)
                                    obtain ⟨rfl, hw⟩ := hw
                                    rcases hw with ⟨fr1v_150, to1v_151, wh1v_152, c_153, c_154, h_155, h_156, h_157, hfr_158, rfl⟩ | ⟨fr1v_159, to1v_160, c_161, c_162, h_163, h_164, h_165, hfr_166, rfl⟩ | ⟨x0v_167, y0v_168, fr1v_169, to1v_170, c_171, c_172, c_173, c_174, h_175, h_176, h_177, hfr_178, rfl⟩
                                    · skip
                                      have h_179 := (hfr_158 _ (gm_ne h_91 h_84 (fun h => by cases h)) (gm_ne h_91 h_85 (fun h => by simp at h)) (gm_ne h_91 h_86 (fun h => by simp at h))).trans h_91
                                      refine W.eq (g2 := F0 m 210 ls [.int (nI 0)]) rfl ?_
                                      refine lv_if_ne (tgt := 215) hx hb d_Mo_begins_210 (by decide) (fun q => absurd q (by decide)) (fun _ => ?_)
                                      refine lv_iconst (v := nI 0) hx hb d_Mo_begins_213 (by decide) ?_
                                      rw [← hQ]
                                      exact gc_zret hx hb hr hlk hP hS d_Mo_begins_214 rfl ⟨rfl, Or.inl ⟨fr1v_150, to1v_151, wh1v_152, (by unfold bgF; rw [if_neg (by unfold ltB; rw [Bool.not_eq_false, decide_eq_true_iff]; exact ⟨hj_44, hj_84, hj_135⟩), if_neg (by omega), hs_57, c_80]; (try dsimp only); rw [if_neg (by omega), hs_148, c_153]; all_goals (first | rfl | (dsimp only; first | rfl | rw [if_pos (by omega)] | rw [if_neg (by omega)]) | rw [if_pos (by omega)] | rw [if_neg (by omega)])), h_155, h_156, h_157, (fun z q0 q1 q2 => (hfr_158 z q0 q1 q2).trans ((hfr_87 z q0 q1 q2).trans ((gm_up_ne _ _ q0).trans (rfl)))), rfl⟩⟩
                                    · skip
                                      have h_180 := (hfr_166 _ (gm_ne h_91 h_84 (fun h => by cases h)) (gm_ne h_91 h_85 (fun h => by simp at h)) (gm_ne h_91 h_86 (fun h => by simp at h))).trans h_91
                                      refine W.eq (g2 := F0 m 210 ls [.int (nI 1)]) rfl ?_
                                      refine lv_if_ne (tgt := 215) hx hb d_Mo_begins_210 (by decide) (fun _ => ?_) (fun q => absurd q (by decide))
                                      refine lv_iload hx hb d_Mo_begins_215 (lv_at hl 4 rfl) ?_
                                      refine lv_iload_n hx hb d_Mo_begins_217 rfl (lv_at hl 1 rfl) ?_
                                      refine ln_ge (tgt := 230) hx hb d_Mo_begins_218 (by decide) (by omega) (by omega) (fun c_181 => ?_) (fun c_181 => ?_)
                                      · omega
                                      · skip
                                        refine lv_aload_n hx hb d_Mo_begins_221 rfl (lv_at hl 0 rfl) ?_
                                        refine gm_get (C := R_Mo) (T := F_Mo) (n := 44) hx hb htl i_Mo hown hK hP h_163 rfl 11 (by decide) (htl _ k_754) (fun _ h => h) rfl d_Mo_begins_222 ?_
                                        refine lv_if_ne (tgt := 230) hx hb d_Mo_begins_225 (by decide) (fun q => absurd q (by decide)) (fun _ => ?_)
                                        refine lv_iconst (v := nI 0) hx hb d_Mo_begins_228 (by decide) ?_
                                        rw [← hQ]
                                        exact gc_zret hx hb hr hlk hP hS d_Mo_begins_229 rfl ⟨rfl, Or.inl ⟨fr1v_159, to1v_160, 0, (by unfold bgF; rw [if_neg (by unfold ltB; rw [Bool.not_eq_false, decide_eq_true_iff]; exact ⟨hj_44, hj_84, hj_135⟩), if_neg (by omega), hs_57, c_80]; (try dsimp only); rw [if_neg (by omega), hs_148, c_161]; all_goals (first | rfl | (dsimp only; first | rfl | rw [if_pos (by omega)] | rw [if_neg (by omega)]) | rw [if_pos (by omega)] | rw [if_neg (by omega)])), h_163, h_164, h_165, (fun z q0 q1 q2 => (hfr_166 z q0 q1 q2).trans ((hfr_87 z q0 q1 q2).trans ((gm_up_ne _ _ q0).trans (rfl)))), rfl⟩⟩
                                    · skip
                                      have h_182 := (hfr_178 _ (gm_ne h_91 h_84 (fun h => by cases h)) (gm_ne h_91 h_85 (fun h => by simp at h)) (gm_ne h_91 h_86 (fun h => by simp at h))).trans h_91
                                      refine W.eq (g2 := F0 m 210 ls [.int (nI 1)]) rfl ?_
                                      refine lv_if_ne (tgt := 215) hx hb d_Mo_begins_210 (by decide) (fun _ => ?_) (fun q => absurd q (by decide))
                                      refine lv_iload hx hb d_Mo_begins_215 (lv_at hl 4 rfl) ?_
                                      refine lv_iload_n hx hb d_Mo_begins_217 rfl (lv_at hl 1 rfl) ?_
                                      refine ln_ge (tgt := 230) hx hb d_Mo_begins_218 (by decide) (by omega) (by omega) (fun c_183 => ?_) (fun c_183 => ?_)
                                      · omega
                                      · skip
                                        refine lv_aload_n hx hb d_Mo_begins_221 rfl (lv_at hl 0 rfl) ?_
                                        refine gm_get (C := R_Mo) (T := F_Mo) (n := 44) hx hb htl i_Mo hown hK hP h_175 rfl 11 (by decide) (htl _ k_754) (fun _ h => h) rfl d_Mo_begins_222 ?_
                                        refine lv_if_ne (tgt := 230) hx hb d_Mo_begins_225 (by decide) (fun _ => ?_) (fun q => absurd q (by decide))
                                        refine lv_iload hx hb d_Mo_begins_230 (lv_at hl 4 rfl) ?_
                                        refine lv_istore_n (lv' := [(2, .int (nI i1)), (0, .ref h), (1, .int (nI k)), (3, .int (nI 1)), (4, .int (nI i1))]) hx hb d_Mo_begins_232 rfl hl (by decide) rfl (fun ls hl => ?_)
                                        refine lv_iload_n hx hb d_Mo_begins_233 rfl (lv_at hl 0 rfl) ?_
                                        refine lv_iload_n hx hb d_Mo_begins_234 rfl (lv_at hl 2 rfl) ?_
                                        refine ln_lt (tgt := 259) hx hb d_Mo_begins_235 (by decide) (by omega) (by omega) (fun c_184 => ?_) (fun c_184 => ?_)
                                        · skip
                                          refine lv_iinc (v := nI 2) (lv' := [(3, .int (nI 2)), (2, .int (nI i1)), (0, .ref h), (1, .int (nI k)), (4, .int (nI i1))]) hx hb d_Mo_begins_259 hl (k := 3) rfl (by decide) (by decide) rfl (fun ls hl => ?_)
                                          refine lv_goto (tgt := 139) hx hb d_Mo_begins_262 (by decide) ?_
                                          refine lv_iload_n hx hb d_Mo_begins_139 rfl (lv_at hl 0 rfl) ?_
                                          refine lv_iconst (v := nI 3) hx hb d_Mo_begins_140 (by decide) ?_
                                          refine lv_icmp_ge (tgt := 265) hx hb d_Mo_begins_141 (by decide) (fun q => absurd q (by decide)) (fun _ => ?_)
                                          refine lv_iload_n hx hb d_Mo_begins_144 rfl (lv_at hl 1 rfl) ?_
                                          refine lv_iload_n hx hb d_Mo_begins_145 rfl (lv_at hl 3 rfl) ?_
                                          refine ln_lt (tgt := 151) hx hb d_Mo_begins_146 (by decide) (by omega) (by omega) (fun c_185 => ?_) (fun c_185 => ?_)
                                          · skip
                                            refine lv_iload_n hx hb d_Mo_begins_151 rfl (lv_at hl 0 rfl) ?_
                                            refine lv_if_le (tgt := 168) hx hb d_Mo_begins_152 (by decide) (fun q => absurd q (by decide)) (fun _ => ?_)
                                            refine lv_aload_n hx hb d_Mo_begins_155 rfl (lv_at hl 2 rfl) ?_
                                            refine gm_get (C := R_Mo) (T := F_Mo) (n := 44) hx hb htl i_Mo hown hK hP h_175 rfl 0 (by decide) (htl _ k_743) (fun _ h => h) rfl d_Mo_begins_156 ?_
                                            refine lv_iload_n hx hb d_Mo_begins_159 rfl (lv_at hl 1 rfl) ?_
                                            refine gz_iald hx hb hK hP 0 h_182 rfl (by omega) (by omega) d_Mo_begins_160 ?_
                                            rw [show lm i1 = t.getD i1 32 from txM_32 hlm (by omega)]
                                            have b_186 := hc8 i1 (by omega)
                                            refine lv_bipush (v := nI 44) hx hb d_Mo_begins_161 (by decide) ?_
                                            refine ln_eq (tgt := 168) hx hb d_Mo_begins_163 (by decide) (by omega) (by omega) (fun c_187 => ?_) (fun c_187 => ?_)
                                            · skip
                                              refine lv_iload_n hx hb d_Mo_begins_168 rfl (lv_at hl 0 rfl) ?_
                                              refine lv_if_le (tgt := 175) hx hb d_Mo_begins_169 (by decide) (fun q => absurd q (by decide)) (fun _ => ?_)
                                              refine lv_iinc (v := nI (i1 + 1)) (lv' := [(2, .int (nI (i1 + 1))), (3, .int (nI 2)), (0, .ref h), (1, .int (nI k)), (4, .int (nI i1))]) hx hb d_Mo_begins_172 hl (k := 1) rfl (nI_1 i1) (by decide) rfl (fun ls hl => ?_)
                                              refine lv_iload_n hx hb d_Mo_begins_175 rfl (lv_at hl 0 rfl) ?_
                                              refine lv_istore (lv' := [(4, .int (nI (i1 + 1))), (2, .int (nI (i1 + 1))), (3, .int (nI 2)), (0, .ref h), (1, .int (nI k))]) hx hb d_Mo_begins_176 hl (by decide) rfl (fun ls hl => ?_)
                                              have loop_178 : ∀ (fu : Nat) (i2 : Nat) (ls : Array Slot) (H : Heap) (locs : List Loc), (i1 + 1 ≤ i2 ∧ i2 ≤ k) → (∀ j, i1 + 1 ≤ j → j < i2 → ¬ t.getD j 32 = 44) → (k - i2) < fu → gm_P D cls A N M_149 H → va_S A s.heap H locs → lv_has ls 5 [(0, .ref h), (1, .int (nI k)), (2, .int (nI (i1 + 1))), (3, .int (nI 2)), (4, .int (nI i2))] → W p l e ({ frames := 3, cells := 0, slots := 0, locals := 74 }) s m ([.ref h, .int (nI k)] : List Value).toArray below meth c H locs (0) (0) Q (F0 m 178 ls []) := by
                                                intro fu
                                                induction fu with
                                                | zero => intro i2 ls H locs hi2 hci2 hk; exact absurd hk (Nat.not_lt_zero _)
                                                | succ fu ih_178 =>
                                                  intro i2 ls H locs hi2 hci2 hk hP hS hl
                                                  refine lv_iload hx hb d_Mo_begins_178 (lv_at hl 4 rfl) ?_
                                                  refine lv_iload_n hx hb d_Mo_begins_180 rfl (lv_at hl 1 rfl) ?_
                                                  refine ln_ge (tgt := 202) hx hb d_Mo_begins_181 (by decide) (by omega) (by omega) (fun c_188 => ?_) (fun c_188 => ?_)
                                                  · skip
                                                    have hs_189 : fxt t 44 (i1 + 1) k = i2 := fx_eq (by omega) (by omega) hci2 (by omega)
                                                    refine lv_aload_n hx hb d_Mo_begins_202 rfl (lv_at hl 0 rfl) ?_
                                                    refine lv_iload_n hx hb d_Mo_begins_203 rfl (lv_at hl 3 rfl) ?_
                                                    refine lv_iload_n hx hb d_Mo_begins_204 rfl (lv_at hl 2 rfl) ?_
                                                    refine lv_iload hx hb d_Mo_begins_205 (lv_at hl 4 rfl) ?_
                                                    refine gc_V (q := (R_Mo, F_Mo, 44)) (n := 3) [.int (nI 2), .int (nI (i1 + 1)), .int (nI i2)] [] hx hb hml hown hts hK hN hX hP hS (c_Mo_range (t := t) h_175 h_182 h_176 h_177 hlm (by omega) hc8 (by omega) (by omega)) rfl h_175 k_888 k_890 ks_Mo_range k_10 k_891 (by decide +kernel) ⟨by decide, by decide⟩ rfl hl.1 rfl (Nat.le_of_ble_eq_true rfl) d_Mo_begins_207 ⟨by decide, by decide⟩ (fun r N1 M_190 H locs hw hP hS => ?_)
                                                    obtain ⟨rfl, hw⟩ := hw
                                                    rcases hw with ⟨fr1v_191, to1v_192, wh1v_193, c_194, c_195, h_196, h_197, h_198, hfr_199, rfl⟩ | ⟨fr1v_200, to1v_201, c_202, c_203, h_204, h_205, h_206, hfr_207, rfl⟩ | ⟨x0v_208, y0v_209, fr1v_210, to1v_211, c_212, c_213, c_214, c_215, h_216, h_217, h_218, hfr_219, rfl⟩
                                                    · skip
                                                      have h_220 := (hfr_199 _ (gm_ne h_182 h_175 (fun h => by cases h)) (gm_ne h_182 h_176 (fun h => by simp at h)) (gm_ne h_182 h_177 (fun h => by simp at h))).trans h_182
                                                      refine W.eq (g2 := F0 m 210 ls [.int (nI 0)]) rfl ?_
                                                      refine lv_if_ne (tgt := 215) hx hb d_Mo_begins_210 (by decide) (fun q => absurd q (by decide)) (fun _ => ?_)
                                                      refine lv_iconst (v := nI 0) hx hb d_Mo_begins_213 (by decide) ?_
                                                      rw [← hQ]
                                                      exact gc_zret hx hb hr hlk hP hS d_Mo_begins_214 rfl ⟨rfl, Or.inl ⟨fr1v_191, to1v_192, wh1v_193, (by unfold bgF; rw [if_neg (by unfold ltB; rw [Bool.not_eq_false, decide_eq_true_iff]; exact ⟨hj_44, hj_84, hj_135⟩), if_neg (by omega), hs_57, c_80]; (try dsimp only); rw [if_neg (by omega), hs_148, c_171]; (try dsimp only); rw [if_neg (by omega), hs_189, c_194]; all_goals (first | rfl | (dsimp only; first | rfl | rw [if_pos (by omega)] | rw [if_neg (by omega)]) | rw [if_pos (by omega)] | rw [if_neg (by omega)])), h_196, h_197, h_198, (fun z q0 q1 q2 => (hfr_199 z q0 q1 q2).trans ((hfr_178 z q0 q1 q2).trans ((hfr_87 z q0 q1 q2).trans ((gm_up_ne _ _ q0).trans (rfl))))), rfl⟩⟩
                                                    · skip
                                                      have h_221 := (hfr_207 _ (gm_ne h_182 h_175 (fun h => by cases h)) (gm_ne h_182 h_176 (fun h => by simp at h)) (gm_ne h_182 h_177 (fun h => by simp at h))).trans h_182
                                                      refine W.eq (g2 := F0 m 210 ls [.int (nI 1)]) rfl ?_
                                                      refine lv_if_ne (tgt := 215) hx hb d_Mo_begins_210 (by decide) (fun _ => ?_) (fun q => absurd q (by decide))
                                                      refine lv_iload hx hb d_Mo_begins_215 (lv_at hl 4 rfl) ?_
                                                      refine lv_iload_n hx hb d_Mo_begins_217 rfl (lv_at hl 1 rfl) ?_
                                                      refine ln_ge (tgt := 230) hx hb d_Mo_begins_218 (by decide) (by omega) (by omega) (fun c_222 => ?_) (fun c_222 => ?_)
                                                      · skip
                                                        refine lv_iload hx hb d_Mo_begins_230 (lv_at hl 4 rfl) ?_
                                                        refine lv_istore_n (lv' := [(2, .int (nI i2)), (0, .ref h), (1, .int (nI k)), (3, .int (nI 2)), (4, .int (nI i2))]) hx hb d_Mo_begins_232 rfl hl (by decide) rfl (fun ls hl => ?_)
                                                        refine lv_iload_n hx hb d_Mo_begins_233 rfl (lv_at hl 0 rfl) ?_
                                                        refine lv_iload_n hx hb d_Mo_begins_234 rfl (lv_at hl 2 rfl) ?_
                                                        refine ln_lt (tgt := 259) hx hb d_Mo_begins_235 (by decide) (by omega) (by omega) (fun c_223 => ?_) (fun c_223 => ?_)
                                                        · omega
                                                        · skip
                                                          refine lv_aload_n hx hb d_Mo_begins_238 rfl (lv_at hl 1 rfl) ?_
                                                          refine lv_aload_n hx hb d_Mo_begins_239 rfl (lv_at hl 1 rfl) ?_
                                                          refine gm_get (C := R_Mo) (T := F_Mo) (n := 44) hx hb htl i_Mo hown hK hP h_204 rfl 11 (by decide) (htl _ k_754) (fun _ h => h) rfl d_Mo_begins_240 ?_
                                                          refine lv_if_eq (tgt := 255) hx hb d_Mo_begins_243 (by decide) (fun _ => ?_) (fun q => absurd q (by decide))
                                                          refine lv_iconst (v := nI 0) hx hb d_Mo_begins_255 (by decide) ?_
                                                          refine gm_put (C := R_Mo) (T := F_Mo) (n := 44) (ty := .boolean) hx hb htl i_Mo t_Mo tk_Mo n_Mo hown hK hP hS h_204 rfl 11 (by decide) (htl _ k_754) (fun _ h => h) rfl (tk_Mo 11 (by decide)) rfl rfl (Nat.le_of_ble_eq_true rfl) d_Mo_begins_256 (fun H locs hP hS => ?_)
                                                          have hP : gm_P D cls A N (gm_up M_190 h (moO h (nI le) bp (nI nr) (nI 0) (nI tl) (nI ne) (nI nf) (nI na) (nI an) (nI tm) (nI cn) (nI cs) (nI bd) (nI lt) (nI nt) fx fy)) H := hP
                                                          have h_224 := gm_pass (k := h) (y := moO h (nI le) bp (nI nr) (nI 0) (nI tl) (nI ne) (nI nf) (nI na) (nI an) (nI tm) (nI cn) (nI cs) (nI bd) (nI lt) (nI nt) fx fy) h_221 (gm_ne h_221 h_204 (fun h => by cases h))
                                                          have h_225 := gm_pass (k := h) (y := moO h (nI le) bp (nI nr) (nI 0) (nI tl) (nI ne) (nI nf) (nI na) (nI an) (nI tm) (nI cn) (nI cs) (nI bd) (nI lt) (nI nt) fx fy) h_205 (gm_ne h_205 h_204 (fun h => by cases h))
                                                          have h_226 := gm_pass (k := h) (y := moO h (nI le) bp (nI nr) (nI 0) (nI tl) (nI ne) (nI nf) (nI na) (nI an) (nI tm) (nI cn) (nI cs) (nI bd) (nI lt) (nI nt) fx fy) h_206 (gm_ne h_206 h_204 (fun h => by cases h))
                                                          have h_227 := gm_up_self M_190 h (moO h (nI le) bp (nI nr) (nI 0) (nI tl) (nI ne) (nI nf) (nI na) (nI an) (nI tm) (nI cn) (nI cs) (nI bd) (nI lt) (nI nt) fx fy)
                                                          refine lv_iinc (v := nI 3) (lv' := [(3, .int (nI 3)), (2, .int (nI i2)), (0, .ref h), (1, .int (nI k)), (4, .int (nI i2))]) hx hb d_Mo_begins_259 hl (k := 3) rfl (by decide) (by decide) rfl (fun ls hl => ?_)
                                                          refine lv_goto (tgt := 139) hx hb d_Mo_begins_262 (by decide) ?_
                                                          refine lv_iload_n hx hb d_Mo_begins_139 rfl (lv_at hl 0 rfl) ?_
                                                          refine lv_iconst (v := nI 3) hx hb d_Mo_begins_140 (by decide) ?_
                                                          refine lv_icmp_ge (tgt := 265) hx hb d_Mo_begins_141 (by decide) (fun _ => ?_) (fun q => absurd q (by decide))
                                                          refine lv_iload_n hx hb d_Mo_begins_265 rfl (lv_at hl 1 rfl) ?_
                                                          refine lv_iload_n hx hb d_Mo_begins_266 rfl (lv_at hl 3 rfl) ?_
                                                          refine ln_lt (tgt := 274) hx hb d_Mo_begins_267 (by decide) (by omega) (by omega) (fun c_228 => ?_) (fun c_228 => ?_)
                                                          · omega
                                                          · skip
                                                            refine lv_iconst (v := nI 1) hx hb d_Mo_begins_270 (by decide) ?_
                                                            refine lv_goto (tgt := 275) hx hb d_Mo_begins_271 (by decide) ?_
                                                            rw [← hQ]
                                                            exact gc_zret hx hb hr hlk hP hS d_Mo_begins_275 rfl ⟨rfl, Or.inr (Or.inl ⟨fr1v_200, to1v_201, (by unfold bgF; rw [if_neg (by unfold ltB; rw [Bool.not_eq_false, decide_eq_true_iff]; exact ⟨hj_44, hj_84, hj_135⟩), if_neg (by omega), hs_57, c_80]; (try dsimp only); rw [if_neg (by omega), hs_148, c_171]; (try dsimp only); rw [if_neg (by omega), hs_189, c_202]; all_goals (first | rfl | (dsimp only; first | rfl | rw [if_pos (by omega)] | rw [if_neg (by omega)]) | rw [if_pos (by omega)] | rw [if_neg (by omega)])), h_227, h_225, h_226, (fun z q0 q1 q2 => (gm_up_ne _ _ q0).trans ((hfr_207 z q0 q1 q2).trans ((hfr_178 z q0 q1 q2).trans ((hfr_87 z q0 q1 q2).trans ((gm_up_ne _ _ q0).trans (rfl)))))), rfl⟩)⟩
                                                      · omega
                                                    · skip
                                                      have h_229 := (hfr_219 _ (gm_ne h_182 h_175 (fun h => by cases h)) (gm_ne h_182 h_176 (fun h => by simp at h)) (gm_ne h_182 h_177 (fun h => by simp at h))).trans h_182
                                                      refine W.eq (g2 := F0 m 210 ls [.int (nI 1)]) rfl ?_
                                                      refine lv_if_ne (tgt := 215) hx hb d_Mo_begins_210 (by decide) (fun _ => ?_) (fun q => absurd q (by decide))
                                                      refine lv_iload hx hb d_Mo_begins_215 (lv_at hl 4 rfl) ?_
                                                      refine lv_iload_n hx hb d_Mo_begins_217 rfl (lv_at hl 1 rfl) ?_
                                                      refine ln_ge (tgt := 230) hx hb d_Mo_begins_218 (by decide) (by omega) (by omega) (fun c_230 => ?_) (fun c_230 => ?_)
                                                      · skip
                                                        refine lv_iload hx hb d_Mo_begins_230 (lv_at hl 4 rfl) ?_
                                                        refine lv_istore_n (lv' := [(2, .int (nI i2)), (0, .ref h), (1, .int (nI k)), (3, .int (nI 2)), (4, .int (nI i2))]) hx hb d_Mo_begins_232 rfl hl (by decide) rfl (fun ls hl => ?_)
                                                        refine lv_iload_n hx hb d_Mo_begins_233 rfl (lv_at hl 0 rfl) ?_
                                                        refine lv_iload_n hx hb d_Mo_begins_234 rfl (lv_at hl 2 rfl) ?_
                                                        refine ln_lt (tgt := 259) hx hb d_Mo_begins_235 (by decide) (by omega) (by omega) (fun c_231 => ?_) (fun c_231 => ?_)
                                                        · omega
                                                        · skip
                                                          refine lv_aload_n hx hb d_Mo_begins_238 rfl (lv_at hl 1 rfl) ?_
                                                          refine lv_aload_n hx hb d_Mo_begins_239 rfl (lv_at hl 1 rfl) ?_
                                                          refine gm_get (C := R_Mo) (T := F_Mo) (n := 44) hx hb htl i_Mo hown hK hP h_216 rfl 11 (by decide) (htl _ k_754) (fun _ h => h) rfl d_Mo_begins_240 ?_
                                                          refine lv_if_eq (tgt := 255) hx hb d_Mo_begins_243 (by decide) (fun q => absurd q (by decide)) (fun _ => ?_)
                                                          refine lv_iload_n hx hb d_Mo_begins_246 rfl (lv_at hl 3 rfl) ?_
                                                          refine lv_iconst (v := nI 2) hx hb d_Mo_begins_247 (by decide) ?_
                                                          refine lv_icmp_ne (tgt := 255) hx hb d_Mo_begins_248 (by decide) (fun q => absurd q (by decide)) (fun _ => ?_)
                                                          refine lv_iconst (v := nI 1) hx hb d_Mo_begins_251 (by decide) ?_
                                                          refine lv_goto (tgt := 256) hx hb d_Mo_begins_252 (by decide) ?_
                                                          refine gm_put (C := R_Mo) (T := F_Mo) (n := 44) (ty := .boolean) hx hb htl i_Mo t_Mo tk_Mo n_Mo hown hK hP hS h_216 rfl 11 (by decide) (htl _ k_754) (fun _ h => h) rfl (tk_Mo 11 (by decide)) rfl rfl (Nat.le_of_ble_eq_true rfl) d_Mo_begins_256 (fun H locs hP hS => ?_)
                                                          have hP : gm_P D cls A N (gm_up M_190 h (moO h (nI le) bp (nI nr) (nI 1) (nI tl) (nI ne) (nI nf) (nI na) (nI an) (nI tm) (nI cn) (nI cs) (nI bd) (nI lt) (nI nt) fx fy)) H := hP
                                                          have h_232 := gm_pass (k := h) (y := moO h (nI le) bp (nI nr) (nI 1) (nI tl) (nI ne) (nI nf) (nI na) (nI an) (nI tm) (nI cn) (nI cs) (nI bd) (nI lt) (nI nt) fx fy) h_229 (gm_ne h_229 h_216 (fun h => by cases h))
                                                          have h_233 := gm_pass (k := h) (y := moO h (nI le) bp (nI nr) (nI 1) (nI tl) (nI ne) (nI nf) (nI na) (nI an) (nI tm) (nI cn) (nI cs) (nI bd) (nI lt) (nI nt) fx fy) h_217 (gm_ne h_217 h_216 (fun h => by cases h))
                                                          have h_234 := gm_pass (k := h) (y := moO h (nI le) bp (nI nr) (nI 1) (nI tl) (nI ne) (nI nf) (nI na) (nI an) (nI tm) (nI cn) (nI cs) (nI bd) (nI lt) (nI nt) fx fy) h_218 (gm_ne h_218 h_216 (fun h => by cases h))
                                                          have h_235 := gm_up_self M_190 h (moO h (nI le) bp (nI nr) (nI 1) (nI tl) (nI ne) (nI nf) (nI na) (nI an) (nI tm) (nI cn) (nI cs) (nI bd) (nI lt) (nI nt) fx fy)
                                                          refine lv_iinc (v := nI 3) (lv' := [(3, .int (nI 3)), (2, .int (nI i2)), (0, .ref h), (1, .int (nI k)), (4, .int (nI i2))]) hx hb d_Mo_begins_259 hl (k := 3) rfl (by decide) (by decide) rfl (fun ls hl => ?_)
                                                          refine lv_goto (tgt := 139) hx hb d_Mo_begins_262 (by decide) ?_
                                                          refine lv_iload_n hx hb d_Mo_begins_139 rfl (lv_at hl 0 rfl) ?_
                                                          refine lv_iconst (v := nI 3) hx hb d_Mo_begins_140 (by decide) ?_
                                                          refine lv_icmp_ge (tgt := 265) hx hb d_Mo_begins_141 (by decide) (fun _ => ?_) (fun q => absurd q (by decide))
                                                          refine lv_iload_n hx hb d_Mo_begins_265 rfl (lv_at hl 1 rfl) ?_
                                                          refine lv_iload_n hx hb d_Mo_begins_266 rfl (lv_at hl 3 rfl) ?_
                                                          refine ln_lt (tgt := 274) hx hb d_Mo_begins_267 (by decide) (by omega) (by omega) (fun c_236 => ?_) (fun c_236 => ?_)
                                                          · omega
                                                          · skip
                                                            refine lv_iconst (v := nI 1) hx hb d_Mo_begins_270 (by decide) ?_
                                                            refine lv_goto (tgt := 275) hx hb d_Mo_begins_271 (by decide) ?_
                                                            rw [← hQ]
                                                            exact gc_zret hx hb hr hlk hP hS d_Mo_begins_275 rfl ⟨rfl, Or.inr (Or.inr ⟨x0v_76, x0v_167, x0v_208, y0v_77, y0v_168, y0v_209, fr1v_210, to1v_211, (by unfold bgF; rw [if_neg (by unfold ltB; rw [Bool.not_eq_false, decide_eq_true_iff]; exact ⟨hj_44, hj_84, hj_135⟩), if_neg (by omega), hs_57, c_80]; (try dsimp only); rw [if_neg (by omega), hs_148, c_171]; (try dsimp only); rw [if_neg (by omega), hs_189, c_212]; all_goals (first | rfl | (dsimp only; first | rfl | rw [if_pos (by omega)] | rw [if_neg (by omega)]) | rw [if_pos (by omega)] | rw [if_neg (by omega)])), (by omega), ⟨(c_215 0 (by decide)).1.trans ((c_174 0 (by decide)).1.trans c_82.1), (c_215 1 (by decide)).1.trans c_173.1, c_214.1, (c_215 0 (by decide)).2.trans ((c_174 0 (by decide)).2.trans c_82.2), (c_215 1 (by decide)).2.trans c_173.2, c_214.2⟩, h_235, h_233, h_234, (fun z q0 q1 q2 => (gm_up_ne _ _ q0).trans ((hfr_219 z q0 q1 q2).trans ((hfr_178 z q0 q1 q2).trans ((hfr_87 z q0 q1 q2).trans ((gm_up_ne _ _ q0).trans (rfl)))))), rfl⟩)⟩
                                                      · omega
                                                  · skip
                                                    refine lv_aload_n hx hb d_Mo_begins_184 rfl (lv_at hl 0 rfl) ?_
                                                    refine gm_get (C := R_Mo) (T := F_Mo) (n := 44) hx hb htl i_Mo hown hK hP h_175 rfl 0 (by decide) (htl _ k_743) (fun _ h => h) rfl d_Mo_begins_185 ?_
                                                    refine lv_iload hx hb d_Mo_begins_188 (lv_at hl 4 rfl) ?_
                                                    refine gz_iald hx hb hK hP 0 h_182 rfl (by omega) (by omega) d_Mo_begins_190 ?_
                                                    rw [show lm i2 = t.getD i2 32 from txM_32 hlm (by omega)]
                                                    have b_237 := hc8 i2 (by omega)
                                                    refine lv_bipush (v := nI 44) hx hb d_Mo_begins_191 (by decide) ?_
                                                    refine ln_eq (tgt := 202) hx hb d_Mo_begins_193 (by decide) (by omega) (by omega) (fun c_238 => ?_) (fun c_238 => ?_)
                                                    · skip
                                                      have hs_239 : fxt t 44 (i1 + 1) k = i2 := fx_eq (by omega) (by omega) hci2 (by omega)
                                                      refine lv_aload_n hx hb d_Mo_begins_202 rfl (lv_at hl 0 rfl) ?_
                                                      refine lv_iload_n hx hb d_Mo_begins_203 rfl (lv_at hl 3 rfl) ?_
                                                      refine lv_iload_n hx hb d_Mo_begins_204 rfl (lv_at hl 2 rfl) ?_
                                                      refine lv_iload hx hb d_Mo_begins_205 (lv_at hl 4 rfl) ?_
                                                      refine gc_V (q := (R_Mo, F_Mo, 44)) (n := 3) [.int (nI 2), .int (nI (i1 + 1)), .int (nI i2)] [] hx hb hml hown hts hK hN hX hP hS (c_Mo_range (t := t) h_175 h_182 h_176 h_177 hlm (by omega) hc8 (by omega) (by omega)) rfl h_175 k_888 k_890 ks_Mo_range k_10 k_891 (by decide +kernel) ⟨by decide, by decide⟩ rfl hl.1 rfl (Nat.le_of_ble_eq_true rfl) d_Mo_begins_207 ⟨by decide, by decide⟩ (fun r N1 M_240 H locs hw hP hS => ?_)
                                                      obtain ⟨rfl, hw⟩ := hw
                                                      rcases hw with ⟨fr1v_241, to1v_242, wh1v_243, c_244, c_245, h_246, h_247, h_248, hfr_249, rfl⟩ | ⟨fr1v_250, to1v_251, c_252, c_253, h_254, h_255, h_256, hfr_257, rfl⟩ | ⟨x0v_258, y0v_259, fr1v_260, to1v_261, c_262, c_263, c_264, c_265, h_266, h_267, h_268, hfr_269, rfl⟩
                                                      · skip
                                                        have h_270 := (hfr_249 _ (gm_ne h_182 h_175 (fun h => by cases h)) (gm_ne h_182 h_176 (fun h => by simp at h)) (gm_ne h_182 h_177 (fun h => by simp at h))).trans h_182
                                                        refine W.eq (g2 := F0 m 210 ls [.int (nI 0)]) rfl ?_
                                                        refine lv_if_ne (tgt := 215) hx hb d_Mo_begins_210 (by decide) (fun q => absurd q (by decide)) (fun _ => ?_)
                                                        refine lv_iconst (v := nI 0) hx hb d_Mo_begins_213 (by decide) ?_
                                                        rw [← hQ]
                                                        exact gc_zret hx hb hr hlk hP hS d_Mo_begins_214 rfl ⟨rfl, Or.inl ⟨fr1v_241, to1v_242, wh1v_243, (by unfold bgF; rw [if_neg (by unfold ltB; rw [Bool.not_eq_false, decide_eq_true_iff]; exact ⟨hj_44, hj_84, hj_135⟩), if_neg (by omega), hs_57, c_80]; (try dsimp only); rw [if_neg (by omega), hs_148, c_171]; (try dsimp only); rw [if_neg (by omega), hs_239, c_244]; all_goals (first | rfl | (dsimp only; first | rfl | rw [if_pos (by omega)] | rw [if_neg (by omega)]) | rw [if_pos (by omega)] | rw [if_neg (by omega)])), h_246, h_247, h_248, (fun z q0 q1 q2 => (hfr_249 z q0 q1 q2).trans ((hfr_178 z q0 q1 q2).trans ((hfr_87 z q0 q1 q2).trans ((gm_up_ne _ _ q0).trans (rfl))))), rfl⟩⟩
                                                      · skip
                                                        have h_271 := (hfr_257 _ (gm_ne h_182 h_175 (fun h => by cases h)) (gm_ne h_182 h_176 (fun h => by simp at h)) (gm_ne h_182 h_177 (fun h => by simp at h))).trans h_182
                                                        refine W.eq (g2 := F0 m 210 ls [.int (nI 1)]) rfl ?_
                                                        refine lv_if_ne (tgt := 215) hx hb d_Mo_begins_210 (by decide) (fun _ => ?_) (fun q => absurd q (by decide))
                                                        refine lv_iload hx hb d_Mo_begins_215 (lv_at hl 4 rfl) ?_
                                                        refine lv_iload_n hx hb d_Mo_begins_217 rfl (lv_at hl 1 rfl) ?_
                                                        refine ln_ge (tgt := 230) hx hb d_Mo_begins_218 (by decide) (by omega) (by omega) (fun c_272 => ?_) (fun c_272 => ?_)
                                                        · omega
                                                        · skip
                                                          refine lv_aload_n hx hb d_Mo_begins_221 rfl (lv_at hl 0 rfl) ?_
                                                          refine gm_get (C := R_Mo) (T := F_Mo) (n := 44) hx hb htl i_Mo hown hK hP h_254 rfl 11 (by decide) (htl _ k_754) (fun _ h => h) rfl d_Mo_begins_222 ?_
                                                          refine lv_if_ne (tgt := 230) hx hb d_Mo_begins_225 (by decide) (fun q => absurd q (by decide)) (fun _ => ?_)
                                                          refine lv_iconst (v := nI 0) hx hb d_Mo_begins_228 (by decide) ?_
                                                          rw [← hQ]
                                                          exact gc_zret hx hb hr hlk hP hS d_Mo_begins_229 rfl ⟨rfl, Or.inl ⟨fr1v_250, to1v_251, 0, (by unfold bgF; rw [if_neg (by unfold ltB; rw [Bool.not_eq_false, decide_eq_true_iff]; exact ⟨hj_44, hj_84, hj_135⟩), if_neg (by omega), hs_57, c_80]; (try dsimp only); rw [if_neg (by omega), hs_148, c_171]; (try dsimp only); rw [if_neg (by omega), hs_239, c_252]; all_goals (first | rfl | (dsimp only; first | rfl | rw [if_pos (by omega)] | rw [if_neg (by omega)]) | rw [if_pos (by omega)] | rw [if_neg (by omega)])), h_254, h_255, h_256, (fun z q0 q1 q2 => (hfr_257 z q0 q1 q2).trans ((hfr_178 z q0 q1 q2).trans ((hfr_87 z q0 q1 q2).trans ((gm_up_ne _ _ q0).trans (rfl))))), rfl⟩⟩
                                                      · skip
                                                        have h_273 := (hfr_269 _ (gm_ne h_182 h_175 (fun h => by cases h)) (gm_ne h_182 h_176 (fun h => by simp at h)) (gm_ne h_182 h_177 (fun h => by simp at h))).trans h_182
                                                        refine W.eq (g2 := F0 m 210 ls [.int (nI 1)]) rfl ?_
                                                        refine lv_if_ne (tgt := 215) hx hb d_Mo_begins_210 (by decide) (fun _ => ?_) (fun q => absurd q (by decide))
                                                        refine lv_iload hx hb d_Mo_begins_215 (lv_at hl 4 rfl) ?_
                                                        refine lv_iload_n hx hb d_Mo_begins_217 rfl (lv_at hl 1 rfl) ?_
                                                        refine ln_ge (tgt := 230) hx hb d_Mo_begins_218 (by decide) (by omega) (by omega) (fun c_274 => ?_) (fun c_274 => ?_)
                                                        · omega
                                                        · skip
                                                          refine lv_aload_n hx hb d_Mo_begins_221 rfl (lv_at hl 0 rfl) ?_
                                                          refine gm_get (C := R_Mo) (T := F_Mo) (n := 44) hx hb htl i_Mo hown hK hP h_266 rfl 11 (by decide) (htl _ k_754) (fun _ h => h) rfl d_Mo_begins_222 ?_
                                                          refine lv_if_ne (tgt := 230) hx hb d_Mo_begins_225 (by decide) (fun _ => ?_) (fun q => absurd q (by decide))
                                                          refine lv_iload hx hb d_Mo_begins_230 (lv_at hl 4 rfl) ?_
                                                          refine lv_istore_n (lv' := [(2, .int (nI i2)), (0, .ref h), (1, .int (nI k)), (3, .int (nI 2)), (4, .int (nI i2))]) hx hb d_Mo_begins_232 rfl hl (by decide) rfl (fun ls hl => ?_)
                                                          refine lv_iload_n hx hb d_Mo_begins_233 rfl (lv_at hl 0 rfl) ?_
                                                          refine lv_iload_n hx hb d_Mo_begins_234 rfl (lv_at hl 2 rfl) ?_
                                                          refine ln_lt (tgt := 259) hx hb d_Mo_begins_235 (by decide) (by omega) (by omega) (fun c_275 => ?_) (fun c_275 => ?_)
                                                          · skip
                                                            refine lv_iinc (v := nI 3) (lv' := [(3, .int (nI 3)), (2, .int (nI i2)), (0, .ref h), (1, .int (nI k)), (4, .int (nI i2))]) hx hb d_Mo_begins_259 hl (k := 3) rfl (by decide) (by decide) rfl (fun ls hl => ?_)
                                                            refine lv_goto (tgt := 139) hx hb d_Mo_begins_262 (by decide) ?_
                                                            refine lv_iload_n hx hb d_Mo_begins_139 rfl (lv_at hl 0 rfl) ?_
                                                            refine lv_iconst (v := nI 3) hx hb d_Mo_begins_140 (by decide) ?_
                                                            refine lv_icmp_ge (tgt := 265) hx hb d_Mo_begins_141 (by decide) (fun _ => ?_) (fun q => absurd q (by decide))
                                                            refine lv_iload_n hx hb d_Mo_begins_265 rfl (lv_at hl 1 rfl) ?_
                                                            refine lv_iload_n hx hb d_Mo_begins_266 rfl (lv_at hl 3 rfl) ?_
                                                            refine ln_lt (tgt := 274) hx hb d_Mo_begins_267 (by decide) (by omega) (by omega) (fun c_276 => ?_) (fun c_276 => ?_)
                                                            · skip
                                                              refine lv_iconst (v := nI 0) hx hb d_Mo_begins_274 (by decide) ?_
                                                              rw [← hQ]
                                                              exact gc_zret hx hb hr hlk hP hS d_Mo_begins_275 rfl ⟨rfl, Or.inl ⟨fr1v_260, to1v_261, 1, (by unfold bgF; rw [if_neg (by unfold ltB; rw [Bool.not_eq_false, decide_eq_true_iff]; exact ⟨hj_44, hj_84, hj_135⟩), if_neg (by omega), hs_57, c_80]; (try dsimp only); rw [if_neg (by omega), hs_148, c_171]; (try dsimp only); rw [if_neg (by omega), hs_239, c_262]; all_goals (first | rfl | (dsimp only; first | rfl | rw [if_pos (by omega)] | rw [if_neg (by omega)]) | rw [if_pos (by omega)] | rw [if_neg (by omega)])), h_266, h_267, h_268, (fun z q0 q1 q2 => (hfr_269 z q0 q1 q2).trans ((hfr_178 z q0 q1 q2).trans ((hfr_87 z q0 q1 q2).trans ((gm_up_ne _ _ q0).trans (rfl))))), rfl⟩⟩
                                                            · omega
                                                          · omega
                                                    · skip
                                                      refine lv_iinc (v := nI (i2 + 1)) (lv' := [(4, .int (nI (i2 + 1))), (0, .ref h), (1, .int (nI k)), (2, .int (nI (i1 + 1))), (3, .int (nI 2))]) hx hb d_Mo_begins_196 hl (k := 4) rfl (nI_1 i2) (by decide) rfl (fun ls hl => ?_)
                                                      refine lv_goto (tgt := 178) hx hb d_Mo_begins_199 (by decide) ?_
                                                      exact ih_178 (i2 + 1) ls _ _ (by omega) (fun j p q => by by_cases z : j = i2; subst z; assumption; exact hci2 j p (by omega)) (by omega) hP hS (lv_sub hl [1, 2, 3, 4, 0] rfl)
                                              exact loop_178 (_ + 1) (i1 + 1) ls _ locs (by omega) (fun j p q => absurd q (by omega)) (Nat.lt_succ_self _) hP hS (lv_sub hl [3, 4, 1, 2, 0] rfl)
                                            · omega
                                          · omega
                                        · omega
                                  · skip
                                    refine lv_iinc (v := nI (i1 + 1)) (lv' := [(4, .int (nI (i1 + 1))), (0, .ref h), (1, .int (nI k)), (2, .int (nI (i0 + 1))), (3, .int (nI 1))]) hx hb d_Mo_begins_196 hl (k := 4) rfl (nI_1 i1) (by decide) rfl (fun ls hl => ?_)
                                    refine lv_goto (tgt := 178) hx hb d_Mo_begins_199 (by decide) ?_
                                    exact ih_178 (i1 + 1) ls _ _ (by omega) (fun j p q => by by_cases z : j = i1; subst z; assumption; exact hci1 j p (by omega)) (by omega) hP hS (lv_sub hl [1, 2, 3, 4, 0] rfl)
                            exact loop_178 (_ + 1) (i0 + 1) ls _ locs (by omega) (fun j p q => absurd q (by omega)) (Nat.lt_succ_self _) hP hS (lv_sub hl [3, 4, 1, 2, 0] rfl)
                          · omega
                        · omega
                      · omega
                · skip
                  refine lv_iinc (v := nI (i0 + 1)) (lv' := [(4, .int (nI (i0 + 1))), (0, .ref h), (1, .int (nI k)), (2, .int (nI 3)), (3, .int (nI 0))]) hx hb d_Mo_begins_196 hl (k := 4) rfl (nI_1 i0) (by decide) rfl (fun ls hl => ?_)
                  refine lv_goto (tgt := 178) hx hb d_Mo_begins_199 (by decide) ?_
                  exact ih_178 (i0 + 1) ls _ _ (by omega) (fun j p q => by by_cases z : j = i0; subst z; assumption; exact hci0 j p (by omega)) (by omega) hP hS (lv_sub hl [1, 2, 3, 4, 0] rfl)
          exact loop_178 (_ + 1) 3 ls _ locs (by omega) (fun j p q => absurd q (by omega)) (Nat.lt_succ_self _) hP hS (lv_sub hl [3, 4, 2, 1, 0] rfl)
        · skip
          refine lv_iconst (v := nI 1) hx hb d_Mo_begins_149 (by decide) ?_
          rw [← hQ]
          exact gc_zret hx hb hr hlk hP hS d_Mo_begins_150 rfl ⟨rfl, Or.inr (Or.inl ⟨mfr, mto, (by unfold bgF; rw [if_neg (by unfold ltB; rw [Bool.not_eq_false, decide_eq_true_iff]; exact ⟨hj_44, hj_84, hj_135⟩), if_pos (by omega)]), h_4, h_2, h_3, (fun z q0 q1 q2 => (gm_up_ne _ _ q0).trans (rfl)), rfl⟩)⟩
      · skip
        refine lv_iload_n hx hb d_Mo_begins_84 rfl (lv_at hl 1 rfl) ?_
        refine lv_iconst (v := nI 2) hx hb d_Mo_begins_85 (by decide) ?_
        refine ln_le (tgt := 135) hx hb d_Mo_begins_86 (by decide) (by omega) (by omega) (fun c_277 => ?_) (fun c_277 => ?_)
        · skip
          exact jn_135 () ls (lv_sub hl [0, 1] rfl) (by omega)
        · skip
          refine lv_aload_n hx hb d_Mo_begins_89 rfl (lv_at hl 0 rfl) ?_
          refine gm_get (C := R_Mo) (T := F_Mo) (n := 44) hx hb htl i_Mo hown hK hP h_4 rfl 0 (by decide) (htl _ k_743) (fun _ h => h) rfl d_Mo_begins_90 ?_
          refine lv_iconst (v := nI 2) hx hb d_Mo_begins_93 (by decide) ?_
          refine gz_iald hx hb hK hP 0 h_1 rfl (by omega) (by omega) d_Mo_begins_94 ?_
          rw [show lm 2 = t.getD 2 32 from txM_32 hlm (by omega)]
          have b_278 := hc8 2 (by omega)
          refine lv_bipush (v := nI 116) hx hb d_Mo_begins_95 (by decide) ?_
          refine ln_eq (tgt := 135) hx hb d_Mo_begins_97 (by decide) (by omega) (by omega) (fun c_279 => ?_) (fun c_279 => ?_)
          · skip
            exact jn_135 () ls (lv_sub hl [0, 1] rfl) (by omega)
          · skip
            refine lv_aload_n hx hb d_Mo_begins_100 rfl (lv_at hl 0 rfl) ?_
            refine gm_get (C := R_Mo) (T := F_Mo) (n := 44) hx hb htl i_Mo hown hK hP h_4 rfl 0 (by decide) (htl _ k_743) (fun _ h => h) rfl d_Mo_begins_101 ?_
            refine lv_iconst (v := nI 2) hx hb d_Mo_begins_104 (by decide) ?_
            refine gz_iald hx hb hK hP 0 h_1 rfl (by omega) (by omega) d_Mo_begins_105 ?_
            rw [show lm 2 = t.getD 2 32 from txM_32 hlm (by omega)]
            have b_280 := hc8 2 (by omega)
            refine lv_bipush (v := nI 117) hx hb d_Mo_begins_106 (by decide) ?_
            refine ln_eq (tgt := 135) hx hb d_Mo_begins_108 (by decide) (by omega) (by omega) (fun c_281 => ?_) (fun c_281 => ?_)
            · skip
              exact jn_135 () ls (lv_sub hl [0, 1] rfl) (by omega)
            · skip
              refine lv_aload_n hx hb d_Mo_begins_111 rfl (lv_at hl 0 rfl) ?_
              refine gm_get (C := R_Mo) (T := F_Mo) (n := 44) hx hb htl i_Mo hown hK hP h_4 rfl 0 (by decide) (htl _ k_743) (fun _ h => h) rfl d_Mo_begins_112 ?_
              refine lv_iconst (v := nI 2) hx hb d_Mo_begins_115 (by decide) ?_
              refine gz_iald hx hb hK hP 0 h_1 rfl (by omega) (by omega) d_Mo_begins_116 ?_
              rw [show lm 2 = t.getD 2 32 from txM_32 hlm (by omega)]
              have b_282 := hc8 2 (by omega)
              refine lv_bipush (v := nI 101) hx hb d_Mo_begins_117 (by decide) ?_
              refine ln_eq (tgt := 135) hx hb d_Mo_begins_119 (by decide) (by omega) (by omega) (fun c_283 => ?_) (fun c_283 => ?_)
              · skip
                exact jn_135 () ls (lv_sub hl [0, 1] rfl) (by omega)
              · skip
                refine lv_aload_n hx hb d_Mo_begins_122 rfl (lv_at hl 0 rfl) ?_
                refine gm_get (C := R_Mo) (T := F_Mo) (n := 44) hx hb htl i_Mo hown hK hP h_4 rfl 0 (by decide) (htl _ k_743) (fun _ h => h) rfl d_Mo_begins_123 ?_
                refine lv_iconst (v := nI 2) hx hb d_Mo_begins_126 (by decide) ?_
                refine gz_iald hx hb hK hP 0 h_1 rfl (by omega) (by omega) d_Mo_begins_127 ?_
                rw [show lm 2 = t.getD 2 32 from txM_32 hlm (by omega)]
                have b_284 := hc8 2 (by omega)
                refine lv_bipush (v := nI 42) hx hb d_Mo_begins_128 (by decide) ?_
                refine ln_eq (tgt := 135) hx hb d_Mo_begins_130 (by decide) (by omega) (by omega) (fun c_285 => ?_) (fun c_285 => ?_)
                · skip
                  exact jn_135 () ls (lv_sub hl [0, 1] rfl) (by omega)
                · skip
                  refine lv_iconst (v := nI 0) hx hb d_Mo_begins_133 (by decide) ?_
                  rw [← hQ]
                  exact gc_zret hx hb hr hlk hP hS d_Mo_begins_134 rfl ⟨rfl, Or.inl ⟨mfr, mto, 0, (by unfold bgF; rw [if_pos (by unfold ltB; rw [decide_eq_false_iff_not]; omega)]), h_4, h_2, h_3, (fun z q0 q1 q2 => (gm_up_ne _ _ q0).trans (rfl)), rfl⟩⟩
    · skip
      refine lv_iload_n hx hb d_Mo_begins_44 rfl (lv_at hl 1 rfl) ?_
      refine lv_iconst (v := nI 1) hx hb d_Mo_begins_45 (by decide) ?_
      refine ln_le (tgt := 84) hx hb d_Mo_begins_46 (by decide) (by omega) (by omega) (fun c_286 => ?_) (fun c_286 => ?_)
      · skip
        exact jn_84 () ls (lv_sub hl [0, 1] rfl) (by omega)
      · skip
        refine lv_aload_n hx hb d_Mo_begins_49 rfl (lv_at hl 0 rfl) ?_
        refine gm_get (C := R_Mo) (T := F_Mo) (n := 44) hx hb htl i_Mo hown hK hP h_4 rfl 0 (by decide) (htl _ k_743) (fun _ h => h) rfl d_Mo_begins_50 ?_
        refine lv_iconst (v := nI 1) hx hb d_Mo_begins_53 (by decide) ?_
        refine gz_iald hx hb hK hP 0 h_1 rfl (by omega) (by omega) d_Mo_begins_54 ?_
        rw [show lm 1 = t.getD 1 32 from txM_32 hlm (by omega)]
        have b_287 := hc8 1 (by omega)
        refine lv_bipush (v := nI 105) hx hb d_Mo_begins_55 (by decide) ?_
        refine ln_eq (tgt := 84) hx hb d_Mo_begins_57 (by decide) (by omega) (by omega) (fun c_288 => ?_) (fun c_288 => ?_)
        · skip
          exact jn_84 () ls (lv_sub hl [0, 1] rfl) (by omega)
        · skip
          refine lv_aload_n hx hb d_Mo_begins_60 rfl (lv_at hl 0 rfl) ?_
          refine gm_get (C := R_Mo) (T := F_Mo) (n := 44) hx hb htl i_Mo hown hK hP h_4 rfl 0 (by decide) (htl _ k_743) (fun _ h => h) rfl d_Mo_begins_61 ?_
          refine lv_iconst (v := nI 1) hx hb d_Mo_begins_64 (by decide) ?_
          refine gz_iald hx hb hK hP 0 h_1 rfl (by omega) (by omega) d_Mo_begins_65 ?_
          rw [show lm 1 = t.getD 1 32 from txM_32 hlm (by omega)]
          have b_289 := hc8 1 (by omega)
          refine lv_bipush (v := nI 111) hx hb d_Mo_begins_66 (by decide) ?_
          refine ln_eq (tgt := 84) hx hb d_Mo_begins_68 (by decide) (by omega) (by omega) (fun c_290 => ?_) (fun c_290 => ?_)
          · skip
            exact jn_84 () ls (lv_sub hl [0, 1] rfl) (by omega)
          · skip
            refine lv_aload_n hx hb d_Mo_begins_71 rfl (lv_at hl 0 rfl) ?_
            refine gm_get (C := R_Mo) (T := F_Mo) (n := 44) hx hb htl i_Mo hown hK hP h_4 rfl 0 (by decide) (htl _ k_743) (fun _ h => h) rfl d_Mo_begins_72 ?_
            refine lv_iconst (v := nI 1) hx hb d_Mo_begins_75 (by decide) ?_
            refine gz_iald hx hb hK hP 0 h_1 rfl (by omega) (by omega) d_Mo_begins_76 ?_
            rw [show lm 1 = t.getD 1 32 from txM_32 hlm (by omega)]
            have b_291 := hc8 1 (by omega)
            refine lv_bipush (v := nI 98) hx hb d_Mo_begins_77 (by decide) ?_
            refine ln_eq (tgt := 84) hx hb d_Mo_begins_79 (by decide) (by omega) (by omega) (fun c_292 => ?_) (fun c_292 => ?_)
            · skip
              exact jn_84 () ls (lv_sub hl [0, 1] rfl) (by omega)
            · skip
              refine lv_iconst (v := nI 0) hx hb d_Mo_begins_82 (by decide) ?_
              rw [← hQ]
              exact gc_zret hx hb hr hlk hP hS d_Mo_begins_83 rfl ⟨rfl, Or.inl ⟨mfr, mto, 0, (by unfold bgF; rw [if_pos (by unfold ltB; rw [decide_eq_false_iff_not]; omega)]), h_4, h_2, h_3, (fun z q0 q1 q2 => (gm_up_ne _ _ q0).trans (rfl)), rfl⟩⟩
  · skip
    refine lv_iload_n hx hb d_Mo_begins_5 rfl (lv_at hl 1 rfl) ?_
    refine lz_le (tgt := 44) hx hb d_Mo_begins_6 (by decide) (by omega) (fun c_293 => ?_) (fun c_293 => ?_)
    · skip
      exact jn_44 () ls (lv_sub hl [0, 1] rfl) (by omega)
    · skip
      refine lv_aload_n hx hb d_Mo_begins_9 rfl (lv_at hl 0 rfl) ?_
      refine gm_get (C := R_Mo) (T := F_Mo) (n := 44) hx hb htl i_Mo hown hK hP h_4 rfl 0 (by decide) (htl _ k_743) (fun _ h => h) rfl d_Mo_begins_10 ?_
      refine lv_iconst (v := nI 0) hx hb d_Mo_begins_13 (by decide) ?_
      refine gz_iald hx hb hK hP 0 h_1 rfl (by omega) (by omega) d_Mo_begins_14 ?_
      rw [show lm 0 = t.getD 0 32 from txM_32 hlm (by omega)]
      have b_294 := hc8 0 (by omega)
      refine lv_bipush (v := nI 80) hx hb d_Mo_begins_15 (by decide) ?_
      refine ln_eq (tgt := 44) hx hb d_Mo_begins_17 (by decide) (by omega) (by omega) (fun c_295 => ?_) (fun c_295 => ?_)
      · skip
        exact jn_44 () ls (lv_sub hl [0, 1] rfl) (by omega)
      · skip
        refine lv_aload_n hx hb d_Mo_begins_20 rfl (lv_at hl 0 rfl) ?_
        refine gm_get (C := R_Mo) (T := F_Mo) (n := 44) hx hb htl i_Mo hown hK hP h_4 rfl 0 (by decide) (htl _ k_743) (fun _ h => h) rfl d_Mo_begins_21 ?_
        refine lv_iconst (v := nI 0) hx hb d_Mo_begins_24 (by decide) ?_
        refine gz_iald hx hb hK hP 0 h_1 rfl (by omega) (by omega) d_Mo_begins_25 ?_
        rw [show lm 0 = t.getD 0 32 from txM_32 hlm (by omega)]
        have b_296 := hc8 0 (by omega)
        refine lv_bipush (v := nI 68) hx hb d_Mo_begins_26 (by decide) ?_
        refine ln_eq (tgt := 44) hx hb d_Mo_begins_28 (by decide) (by omega) (by omega) (fun c_297 => ?_) (fun c_297 => ?_)
        · skip
          exact jn_44 () ls (lv_sub hl [0, 1] rfl) (by omega)
        · skip
          refine lv_aload_n hx hb d_Mo_begins_31 rfl (lv_at hl 0 rfl) ?_
          refine gm_get (C := R_Mo) (T := F_Mo) (n := 44) hx hb htl i_Mo hown hK hP h_4 rfl 0 (by decide) (htl _ k_743) (fun _ h => h) rfl d_Mo_begins_32 ?_
          refine lv_iconst (v := nI 0) hx hb d_Mo_begins_35 (by decide) ?_
          refine gz_iald hx hb hK hP 0 h_1 rfl (by omega) (by omega) d_Mo_begins_36 ?_
          rw [show lm 0 = t.getD 0 32 from txM_32 hlm (by omega)]
          have b_298 := hc8 0 (by omega)
          refine lv_bipush (v := nI 83) hx hb d_Mo_begins_37 (by decide) ?_
          refine ln_eq (tgt := 44) hx hb d_Mo_begins_39 (by decide) (by omega) (by omega) (fun c_299 => ?_) (fun c_299 => ?_)
          · skip
            exact jn_44 () ls (lv_sub hl [0, 1] rfl) (by omega)
          · skip
            refine lv_iconst (v := nI 0) hx hb d_Mo_begins_42 (by decide) ?_
            rw [← hQ]
            exact gc_zret hx hb hr hlk hP hS d_Mo_begins_43 rfl ⟨rfl, Or.inl ⟨mfr, mto, 0, (by unfold bgF; rw [if_pos (by unfold ltB; rw [decide_eq_false_iff_not]; omega)]), h_4, h_2, h_3, (fun z q0 q1 q2 => (gm_up_ne _ _ q0).trans (rfl)), rfl⟩⟩
end C34
