section C35
variable {l : Launch} {D : va_G} {ca : Nat → ClassId} {A : Nat → Prop} {G : gG} {N : Nat} {M : gm_M}

theorem bgF_0 (t : List Nat) : bgF t 0 = some none := by
  unfold bgF
  rw [if_neg (by unfold ltB; rw [Bool.not_eq_false, decide_eq_true_iff]; omega), if_pos (by omega)]
theorem bgF_let {t : List Nat} {k : Nat} {q : Nat × Nat × Nat × Nat × Nat × Nat} (h : bgF t k = some (some q)) : 3 < k ∧ (t.getD 0 32 = 80 ∨ t.getD 0 32 = 68 ∨ t.getD 0 32 = 83) ∧ (t.getD 1 32 = 105 ∨ t.getD 1 32 = 111 ∨ t.getD 1 32 = 98) ∧ (t.getD 2 32 = 116 ∨ t.getD 2 32 = 117 ∨ t.getD 2 32 = 101 ∨ t.getD 2 32 = 42) := by
  unfold bgF at h
  by_cases z : ltB t k = false
  · rw [if_pos z] at h; cases h
  · rw [if_neg z] at h
    by_cases y : k ≤ 3
    · rw [if_pos y] at h; cases h
    · rw [Bool.not_eq_false] at z
      unfold ltB at z
      rw [decide_eq_true_iff] at z
      exact ⟨by omega, z.1 (by omega), z.2.1 (by omega), z.2.2 (by omega)⟩
set_option maxHeartbeats 4000000 in
set_option maxRecDepth 100000 in
theorem c_Mo_install {h nr tl ne nf na an tm cn cs bd lt nt wh : Nat} {bp fx fy : Int32} {lm : Nat → Nat} {ma : Nat → Nat} {mw : Nat → Nat} {mp : Nat → Nat} {ml : Nat → Nat} {mh : Nat → Nat} {mfr : Nat → Nat} {mto : Nat → Nat} {t : List Nat} (eh : M h = some (moO h (nI t.length) bp (nI nr) (nI wh) (nI tl) (nI ne) (nI nf) (nI na) (nI an) (nI tm) (nI cn) (nI cs) (nI bd) (nI lt) (nI nt) fx fy)) (m1 : M (h + 1) = some (.inl (ca 0, 40, .inl (iN lm)))) (m2 : M (h + 2) = some (.inl (ca 0, 17, .inl (iN ma)))) (m3 : M (h + 3) = some (.inl (ca 0, 17, .inl (iN mw)))) (m4 : M (h + 4) = some (.inl (ca 0, 17, .inl (iN mp)))) (m5 : M (h + 5) = some (.inl (ca 0, 51, .inl (iN ml)))) (m6 : M (h + 6) = some (.inl (ca 0, 51, .inl (iN mh)))) (m7 : M (h + 7) = some (.inl (ca 0, 3, .inl (iN mfr)))) (m8 : M (h + 8) = some (.inl (ca 0, 3, .inl (iN mto)))) (hlm : txM lm t) (htl : t.length ≤ 40) (hc8 : ∀ i, i < t.length → t.getD i 32 < 256) (hnr : nr ≤ 16) : gC l D ca A G y_Mo_install (.code y_Mo_install b_Mo_install 3 (some .int)) ({ frames := 4, cells := 0, slots := 0, locals := 98 }) N M [.ref h] gm_i (fun (r : Int32) (N1 : Nat) (M1 : gm_M) => N = N1 ∧ (((nr = 16) ∧ gm_up M h (moO h (nI 0) bp (nI nr) (nI wh) (nI tl) (nI ne) (nI nf) (nI na) (nI an) (nI tm) (nI cn) (nI cs) (nI bd) (nI lt) (nI nt) fx fy) = M1 ∧ (-3) = r) ∨ (∃ (k : Nat) (fr1 : Nat → Nat) (to1 : Nat → Nat) (wh1 : Nat), (nr < 16) ∧ (1 ≤ k ∧ k ≤ t.length) ∧ (bgF t k = none) ∧ (∀ j, 1 ≤ j → j < k → bgF t j ≠ none) ∧ M1 h = some (moO h (nI 0) (nI (k - 1)) (nI nr) (nI wh1) (nI tl) (nI ne) (nI nf) (nI na) (nI an) (nI tm) (nI cn) (nI cs) (nI bd) (nI lt) (nI nt) fx fy) ∧ M1 (h + 7) = some (.inl (ca 0, 3, .inl (iN fr1))) ∧ M1 (h + 8) = some (.inl (ca 0, 3, .inl (iN to1))) ∧ (∀ z, z ≠ h → z ≠ (h + 7) → z ≠ (h + 8) → M1 z = M z) ∧ (-2) = r) ∨ (∃ (fr1 : Nat → Nat) (to1 : Nat → Nat), (nr < 16) ∧ (∀ j, 1 ≤ j → j ≤ t.length → bgF t j ≠ none) ∧ (bgF t t.length = some none) ∧ M1 h = some (moO h (nI 0) (nI t.length) (nI nr) (nI 0) (nI tl) (nI ne) (nI nf) (nI na) (nI an) (nI tm) (nI cn) (nI cs) (nI bd) (nI lt) (nI nt) fx fy) ∧ M1 (h + 7) = some (.inl (ca 0, 3, .inl (iN fr1))) ∧ M1 (h + 8) = some (.inl (ca 0, 3, .inl (iN to1))) ∧ (∀ z, z ≠ h → z ≠ (h + 7) → z ≠ (h + 8) → M1 z = M z) ∧ (-2) = r) ∨ (∃ (k0 : Nat) (k1 : Nat) (k2 : Nat) (x1 : Nat) (x2 : Nat) (x3 : Nat) (y1 : Nat) (y2 : Nat) (y3 : Nat) (fr1 : Nat → Nat) (to1 : Nat → Nat), (nr < 16) ∧ (∀ j, 1 ≤ j → j ≤ t.length → bgF t j ≠ none) ∧ (bgF t t.length = some (some (x1, x2, x3, y1, y2, y3))) ∧ (lix 1 (t.getD 0 32) = some k0 ∧ lix 2 (t.getD 1 32) = some k1 ∧ lix 3 (t.getD 2 32) = some k2) ∧ (x1 ≤ 255 ∧ x2 ≤ 255 ∧ x3 ≤ 255 ∧ y1 ≤ 255 ∧ y2 ≤ 255 ∧ y3 ≤ 255) ∧ M1 h = some (moO h (nI 0) bp (nI (nr + 1)) (nI 1) (nI tl) (nI ne) (nI nf) (nI na) (nI an) (nI tm) (nI cn) (nI cs) (nI bd) (nI lt) (nI nt) fx fy) ∧ M1 (h + 7) = some (.inl (ca 0, 3, .inl (iN fr1))) ∧ M1 (h + 8) = some (.inl (ca 0, 3, .inl (iN to1))) ∧ M1 (h + 2) = some (.inl (ca 0, 17, .inl (iN (va_up ma nr k0)))) ∧ M1 (h + 3) = some (.inl (ca 0, 17, .inl (iN (va_up mw nr k1)))) ∧ M1 (h + 4) = some (.inl (ca 0, 17, .inl (iN (va_up mp nr k2)))) ∧ M1 (h + 5) = some (.inl (ca 0, 51, .inl (iN (va_up (va_up (va_up ml (nr * 3 + 0) x1) (nr * 3 + 1) x2) (nr * 3 + 2) x3)))) ∧ M1 (h + 6) = some (.inl (ca 0, 51, .inl (iN (va_up (va_up (va_up mh (nr * 3 + 0) y1) (nr * 3 + 1) y2) (nr * 3 + 2) y3)))) ∧ (∀ z, z ≠ h → z ≠ (h + 7) → z ≠ (h + 8) → z ≠ (h + 2) → z ≠ (h + 3) → z ≠ (h + 4) → z ≠ (h + 5) → z ≠ (h + 6) → M1 z = M z) ∧ nI (nr + 1) = r))) := by
  refine gm_body (by decide) (Nat.le_of_ble_eq_true rfl) (fun p e s m below meth c ls hx hb hr hts hown hlk hml hnm hP hK hN hX hS hl => ?_)
  have htl : ∀ w ∈ LW, w.before _ s = true := fun w h => hts w (List.mem_cons_of_mem _ h)
  have hown : s.vm.findClass "PacketGateModel" = some m.cls := hown
  have hl : lv_has ls 3 [(0, .ref h)] := hl
  generalize hQ : MQ below _ _ s _ _ A = Q
  refine lv_aload_n hx hb d_Mo_install_0 rfl (lv_at hl 0 rfl) ?_
  refine gm_get (C := R_Mo) (T := F_Mo) (n := 44) hx hb htl i_Mo hown hK hP eh rfl 1 (by decide) (htl _ k_744) (fun _ h => h) rfl d_Mo_install_1 ?_
  refine lv_istore_n (lv' := [(1, .int (nI t.length)), (0, .ref h)]) hx hb d_Mo_install_4 rfl hl (by decide) rfl (fun ls hl => ?_)
  refine lv_aload_n hx hb d_Mo_install_5 rfl (lv_at hl 1 rfl) ?_
  refine lv_iconst (v := nI 0) hx hb d_Mo_install_6 (by decide) ?_
  refine gm_put (C := R_Mo) (T := F_Mo) (n := 44) (ty := .int) hx hb htl i_Mo t_Mo tk_Mo n_Mo hown hK hP hS eh rfl 1 (by decide) (htl _ k_744) (fun _ h => h) rfl (tk_Mo 1 (by decide)) rfl rfl (Nat.le_of_ble_eq_true rfl) d_Mo_install_7 (fun H locs hP hS => ?_)
  have hP : gm_P D cls A N (gm_up M h (moO h (nI 0) bp (nI nr) (nI wh) (nI tl) (nI ne) (nI nf) (nI na) (nI an) (nI tm) (nI cn) (nI cs) (nI bd) (nI lt) (nI nt) fx fy)) H := hP
  have h_1 := gm_pass (k := h) (y := moO h (nI 0) bp (nI nr) (nI wh) (nI tl) (nI ne) (nI nf) (nI na) (nI an) (nI tm) (nI cn) (nI cs) (nI bd) (nI lt) (nI nt) fx fy) m1 (gm_ne m1 eh (fun h => by cases h))
  have h_2 := gm_pass (k := h) (y := moO h (nI 0) bp (nI nr) (nI wh) (nI tl) (nI ne) (nI nf) (nI na) (nI an) (nI tm) (nI cn) (nI cs) (nI bd) (nI lt) (nI nt) fx fy) m2 (gm_ne m2 eh (fun h => by cases h))
  have h_3 := gm_pass (k := h) (y := moO h (nI 0) bp (nI nr) (nI wh) (nI tl) (nI ne) (nI nf) (nI na) (nI an) (nI tm) (nI cn) (nI cs) (nI bd) (nI lt) (nI nt) fx fy) m3 (gm_ne m3 eh (fun h => by cases h))
  have h_4 := gm_pass (k := h) (y := moO h (nI 0) bp (nI nr) (nI wh) (nI tl) (nI ne) (nI nf) (nI na) (nI an) (nI tm) (nI cn) (nI cs) (nI bd) (nI lt) (nI nt) fx fy) m4 (gm_ne m4 eh (fun h => by cases h))
  have h_5 := gm_pass (k := h) (y := moO h (nI 0) bp (nI nr) (nI wh) (nI tl) (nI ne) (nI nf) (nI na) (nI an) (nI tm) (nI cn) (nI cs) (nI bd) (nI lt) (nI nt) fx fy) m5 (gm_ne m5 eh (fun h => by cases h))
  have h_6 := gm_pass (k := h) (y := moO h (nI 0) bp (nI nr) (nI wh) (nI tl) (nI ne) (nI nf) (nI na) (nI an) (nI tm) (nI cn) (nI cs) (nI bd) (nI lt) (nI nt) fx fy) m6 (gm_ne m6 eh (fun h => by cases h))
  have h_7 := gm_pass (k := h) (y := moO h (nI 0) bp (nI nr) (nI wh) (nI tl) (nI ne) (nI nf) (nI na) (nI an) (nI tm) (nI cn) (nI cs) (nI bd) (nI lt) (nI nt) fx fy) m7 (gm_ne m7 eh (fun h => by cases h))
  have h_8 := gm_pass (k := h) (y := moO h (nI 0) bp (nI nr) (nI wh) (nI tl) (nI ne) (nI nf) (nI na) (nI an) (nI tm) (nI cn) (nI cs) (nI bd) (nI lt) (nI nt) fx fy) m8 (gm_ne m8 eh (fun h => by cases h))
  have h_9 := gm_up_self M h (moO h (nI 0) bp (nI nr) (nI wh) (nI tl) (nI ne) (nI nf) (nI na) (nI an) (nI tm) (nI cn) (nI cs) (nI bd) (nI lt) (nI nt) fx fy)
  refine lv_aload_n hx hb d_Mo_install_10 rfl (lv_at hl 1 rfl) ?_
  refine gm_get (C := R_Mo) (T := F_Mo) (n := 44) hx hb htl i_Mo hown hK hP h_9 rfl 8 (by decide) (htl _ k_751) (fun _ h => h) rfl d_Mo_install_11 ?_
  refine lv_bipush (v := nI 16) hx hb d_Mo_install_14 (by decide) ?_
  refine ln_ne (tgt := 22) hx hb d_Mo_install_16 (by decide) (by omega) (by omega) (fun c_10 => ?_) (fun c_10 => ?_)
  · skip
    refine lv_iconst (v := nI 1) hx hb d_Mo_install_22 (by decide) ?_
    refine lv_istore_n (lv' := [(2, .int (nI 1)), (1, .int (nI t.length)), (0, .ref h)]) hx hb d_Mo_install_23 rfl hl (by decide) rfl (fun ls hl => ?_)
    have loop_24 : ∀ (fu : Nat) (k : Nat) (wv : Nat) (frv : Nat → Nat) (tov : Nat → Nat) (Mv : gm_M) (ls : Array Slot) (H : Heap) (locs : List Loc), (Mv h = some (moO h (nI 0) bp (nI nr) (nI wv) (nI tl) (nI ne) (nI nf) (nI na) (nI an) (nI tm) (nI cn) (nI cs) (nI bd) (nI lt) (nI nt) fx fy)) → (Mv (h + 1) = some (.inl (ca 0, 40, .inl (iN lm)))) → (Mv (h + 2) = some (.inl (ca 0, 17, .inl (iN ma)))) → (Mv (h + 3) = some (.inl (ca 0, 17, .inl (iN mw)))) → (Mv (h + 4) = some (.inl (ca 0, 17, .inl (iN mp)))) → (Mv (h + 5) = some (.inl (ca 0, 51, .inl (iN ml)))) → (Mv (h + 6) = some (.inl (ca 0, 51, .inl (iN mh)))) → (Mv (h + 7) = some (.inl (ca 0, 3, .inl (iN frv)))) → (Mv (h + 8) = some (.inl (ca 0, 3, .inl (iN tov)))) → (1 ≤ k ∧ k ≤ t.length + 1) → (∀ j, 1 ≤ j → j < k → bgF t j ≠ none) → (∀ z, z ≠ h → z ≠ (h + 7) → z ≠ (h + 8) → Mv z = M z) → (t.length + 1 - k) < fu → gm_P D cls A N Mv H → va_S A s.heap H locs → lv_has ls 3 [(0, .ref h), (1, .int (nI t.length)), (2, .int (nI k))] → W p l e ({ frames := 4, cells := 0, slots := 0, locals := 98 }) s m ([.ref h] : List Value).toArray below meth c H locs (0) (0) Q (F0 m 24 ls []) := by
      intro fu
      induction fu with
      | zero => intro k wv frv tov Mv ls H locs ehv m1v m2v m3v m4v m5v m6v m7v m8v hk hgo hfrv hk; exact absurd hk (Nat.not_lt_zero _)
      | succ fu ih_24 =>
        intro k wv frv tov Mv ls H locs ehv m1v m2v m3v m4v m5v m6v m7v m8v hk hgo hfrv hk hP hS hl
        refine lv_iload_n hx hb d_Mo_install_24 rfl (lv_at hl 2 rfl) ?_
        refine lv_iload_n hx hb d_Mo_install_25 rfl (lv_at hl 1 rfl) ?_
        refine ln_gt (tgt := 56) hx hb d_Mo_install_26 (by decide) (by omega) (by omega) (fun c_11 => ?_) (fun c_11 => ?_)
        · skip
          refine lv_aload_n hx hb d_Mo_install_56 rfl (lv_at hl 0 rfl) ?_
          refine lv_iload_n hx hb d_Mo_install_57 rfl (lv_at hl 1 rfl) ?_
          refine gc_V (q := (R_Mo, F_Mo, 44)) (n := 1) [.int (nI t.length)] [] hx hb hml hown hts hK hN hX hP hS (c_Mo_begins (t := t) ehv m1v m7v m8v hlm (by omega) hc8 (by omega)) rfl ehv k_884 k_886 ks_Mo_begins k_10 k_887 (by decide +kernel) ⟨by decide, by decide⟩ rfl hl.1 rfl (Nat.le_of_ble_eq_true rfl) d_Mo_install_58 ⟨by decide, by decide⟩ (fun r N1 M_12 H locs hw hP hS => ?_)
          obtain ⟨rfl, hw⟩ := hw
          rcases hw with ⟨fr1v_13, to1v_14, wh1v_15, c_16, h_17, h_18, h_19, hfr_20, rfl⟩ | ⟨fr1v_21, to1v_22, c_23, h_24, h_25, h_26, hfr_27, rfl⟩ | ⟨x1v_28, x2v_29, x3v_30, y1v_31, y2v_32, y3v_33, fr1v_34, to1v_35, c_36, c_37, c_38, h_39, h_40, h_41, hfr_42, rfl⟩
          · skip
            have h_43 := (hfr_20 _ (gm_ne m1v ehv (fun h => by cases h)) (gm_ne m1v m7v (fun h => by simp at h)) (gm_ne m1v m8v (fun h => by simp at h))).trans m1v
            have h_44 := (hfr_20 _ (gm_ne m2v ehv (fun h => by cases h)) (gm_ne m2v m7v (fun h => by simp at h)) (gm_ne m2v m8v (fun h => by simp at h))).trans m2v
            have h_45 := (hfr_20 _ (gm_ne m3v ehv (fun h => by cases h)) (gm_ne m3v m7v (fun h => by simp at h)) (gm_ne m3v m8v (fun h => by simp at h))).trans m3v
            have h_46 := (hfr_20 _ (gm_ne m4v ehv (fun h => by cases h)) (gm_ne m4v m7v (fun h => by simp at h)) (gm_ne m4v m8v (fun h => by simp at h))).trans m4v
            have h_47 := (hfr_20 _ (gm_ne m5v ehv (fun h => by cases h)) (gm_ne m5v m7v (fun h => by simp at h)) (gm_ne m5v m8v (fun h => by simp at h))).trans m5v
            have h_48 := (hfr_20 _ (gm_ne m6v ehv (fun h => by cases h)) (gm_ne m6v m7v (fun h => by simp at h)) (gm_ne m6v m8v (fun h => by simp at h))).trans m6v
            refine W.eq (g2 := F0 m 61 ls [.int (nI 0)]) rfl ?_
            refine lv_if_eq (tgt := 71) hx hb d_Mo_install_61 (by decide) (fun _ => ?_) (fun q => absurd q (by decide))
            refine lv_aload_n hx hb d_Mo_install_71 rfl (lv_at hl 0 rfl) ?_
            refine lv_iload_n hx hb d_Mo_install_72 rfl (lv_at hl 1 rfl) ?_
            refine gm_put (C := R_Mo) (T := F_Mo) (n := 44) (ty := .int) hx hb htl i_Mo t_Mo tk_Mo n_Mo hown hK hP hS h_17 rfl 2 (by decide) (htl _ k_745) (fun _ h => h) rfl (tk_Mo 2 (by decide)) rfl rfl (Nat.le_of_ble_eq_true rfl) d_Mo_install_73 (fun H locs hP hS => ?_)
            have hP : gm_P D cls A N (gm_up M_12 h (moO h (nI 0) (nI t.length) (nI nr) (nI wh1v_15) (nI tl) (nI ne) (nI nf) (nI na) (nI an) (nI tm) (nI cn) (nI cs) (nI bd) (nI lt) (nI nt) fx fy)) H := hP
            have h_49 := gm_pass (k := h) (y := moO h (nI 0) (nI t.length) (nI nr) (nI wh1v_15) (nI tl) (nI ne) (nI nf) (nI na) (nI an) (nI tm) (nI cn) (nI cs) (nI bd) (nI lt) (nI nt) fx fy) h_43 (gm_ne h_43 h_17 (fun h => by cases h))
            have h_50 := gm_pass (k := h) (y := moO h (nI 0) (nI t.length) (nI nr) (nI wh1v_15) (nI tl) (nI ne) (nI nf) (nI na) (nI an) (nI tm) (nI cn) (nI cs) (nI bd) (nI lt) (nI nt) fx fy) h_44 (gm_ne h_44 h_17 (fun h => by cases h))
            have h_51 := gm_pass (k := h) (y := moO h (nI 0) (nI t.length) (nI nr) (nI wh1v_15) (nI tl) (nI ne) (nI nf) (nI na) (nI an) (nI tm) (nI cn) (nI cs) (nI bd) (nI lt) (nI nt) fx fy) h_45 (gm_ne h_45 h_17 (fun h => by cases h))
            have h_52 := gm_pass (k := h) (y := moO h (nI 0) (nI t.length) (nI nr) (nI wh1v_15) (nI tl) (nI ne) (nI nf) (nI na) (nI an) (nI tm) (nI cn) (nI cs) (nI bd) (nI lt) (nI nt) fx fy) h_46 (gm_ne h_46 h_17 (fun h => by cases h))
            have h_53 := gm_pass (k := h) (y := moO h (nI 0) (nI t.length) (nI nr) (nI wh1v_15) (nI tl) (nI ne) (nI nf) (nI na) (nI an) (nI tm) (nI cn) (nI cs) (nI bd) (nI lt) (nI nt) fx fy) h_47 (gm_ne h_47 h_17 (fun h => by cases h))
            have h_54 := gm_pass (k := h) (y := moO h (nI 0) (nI t.length) (nI nr) (nI wh1v_15) (nI tl) (nI ne) (nI nf) (nI na) (nI an) (nI tm) (nI cn) (nI cs) (nI bd) (nI lt) (nI nt) fx fy) h_48 (gm_ne h_48 h_17 (fun h => by cases h))
            have h_55 := gm_pass (k := h) (y := moO h (nI 0) (nI t.length) (nI nr) (nI wh1v_15) (nI tl) (nI ne) (nI nf) (nI na) (nI an) (nI tm) (nI cn) (nI cs) (nI bd) (nI lt) (nI nt) fx fy) h_18 (gm_ne h_18 h_17 (fun h => by cases h))
            have h_56 := gm_pass (k := h) (y := moO h (nI 0) (nI t.length) (nI nr) (nI wh1v_15) (nI tl) (nI ne) (nI nf) (nI na) (nI an) (nI tm) (nI cn) (nI cs) (nI bd) (nI lt) (nI nt) fx fy) h_19 (gm_ne h_19 h_17 (fun h => by cases h))
            have h_57 := gm_up_self M_12 h (moO h (nI 0) (nI t.length) (nI nr) (nI wh1v_15) (nI tl) (nI ne) (nI nf) (nI na) (nI an) (nI tm) (nI cn) (nI cs) (nI bd) (nI lt) (nI nt) fx fy)
            refine lv_bipush (v := (-2)) hx hb d_Mo_install_76 (by decide) ?_
            rw [← hQ]
            exact gc_iret hx hb hr hlk hP hS d_Mo_install_78 (by have q0 := c_16; rcases Nat.eq_zero_or_pos t.length with z | z; rw [z, bgF_0] at q0; cases q0; exact absurd q0 (hgo _ (by omega) (by omega)))
          · skip
            have h_58 := (hfr_27 _ (gm_ne m1v ehv (fun h => by cases h)) (gm_ne m1v m7v (fun h => by simp at h)) (gm_ne m1v m8v (fun h => by simp at h))).trans m1v
            have h_59 := (hfr_27 _ (gm_ne m2v ehv (fun h => by cases h)) (gm_ne m2v m7v (fun h => by simp at h)) (gm_ne m2v m8v (fun h => by simp at h))).trans m2v
            have h_60 := (hfr_27 _ (gm_ne m3v ehv (fun h => by cases h)) (gm_ne m3v m7v (fun h => by simp at h)) (gm_ne m3v m8v (fun h => by simp at h))).trans m3v
            have h_61 := (hfr_27 _ (gm_ne m4v ehv (fun h => by cases h)) (gm_ne m4v m7v (fun h => by simp at h)) (gm_ne m4v m8v (fun h => by simp at h))).trans m4v
            have h_62 := (hfr_27 _ (gm_ne m5v ehv (fun h => by cases h)) (gm_ne m5v m7v (fun h => by simp at h)) (gm_ne m5v m8v (fun h => by simp at h))).trans m5v
            have h_63 := (hfr_27 _ (gm_ne m6v ehv (fun h => by cases h)) (gm_ne m6v m7v (fun h => by simp at h)) (gm_ne m6v m8v (fun h => by simp at h))).trans m6v
            refine W.eq (g2 := F0 m 61 ls [.int (nI 1)]) rfl ?_
            refine lv_if_eq (tgt := 71) hx hb d_Mo_install_61 (by decide) (fun q => absurd q (by decide)) (fun _ => ?_)
            refine lv_aload_n hx hb d_Mo_install_64 rfl (lv_at hl 0 rfl) ?_
            refine gm_get (C := R_Mo) (T := F_Mo) (n := 44) hx hb htl i_Mo hown hK hP h_24 rfl 11 (by decide) (htl _ k_754) (fun _ h => h) rfl d_Mo_install_65 ?_
            refine lv_if_ne (tgt := 79) hx hb d_Mo_install_68 (by decide) (fun q => absurd q (by decide)) (fun _ => ?_)
            refine lv_aload_n hx hb d_Mo_install_71 rfl (lv_at hl 0 rfl) ?_
            refine lv_iload_n hx hb d_Mo_install_72 rfl (lv_at hl 1 rfl) ?_
            refine gm_put (C := R_Mo) (T := F_Mo) (n := 44) (ty := .int) hx hb htl i_Mo t_Mo tk_Mo n_Mo hown hK hP hS h_24 rfl 2 (by decide) (htl _ k_745) (fun _ h => h) rfl (tk_Mo 2 (by decide)) rfl rfl (Nat.le_of_ble_eq_true rfl) d_Mo_install_73 (fun H locs hP hS => ?_)
            have hP : gm_P D cls A N (gm_up M_12 h (moO h (nI 0) (nI t.length) (nI nr) (nI 0) (nI tl) (nI ne) (nI nf) (nI na) (nI an) (nI tm) (nI cn) (nI cs) (nI bd) (nI lt) (nI nt) fx fy)) H := hP
            have h_64 := gm_pass (k := h) (y := moO h (nI 0) (nI t.length) (nI nr) (nI 0) (nI tl) (nI ne) (nI nf) (nI na) (nI an) (nI tm) (nI cn) (nI cs) (nI bd) (nI lt) (nI nt) fx fy) h_58 (gm_ne h_58 h_24 (fun h => by cases h))
            have h_65 := gm_pass (k := h) (y := moO h (nI 0) (nI t.length) (nI nr) (nI 0) (nI tl) (nI ne) (nI nf) (nI na) (nI an) (nI tm) (nI cn) (nI cs) (nI bd) (nI lt) (nI nt) fx fy) h_59 (gm_ne h_59 h_24 (fun h => by cases h))
            have h_66 := gm_pass (k := h) (y := moO h (nI 0) (nI t.length) (nI nr) (nI 0) (nI tl) (nI ne) (nI nf) (nI na) (nI an) (nI tm) (nI cn) (nI cs) (nI bd) (nI lt) (nI nt) fx fy) h_60 (gm_ne h_60 h_24 (fun h => by cases h))
            have h_67 := gm_pass (k := h) (y := moO h (nI 0) (nI t.length) (nI nr) (nI 0) (nI tl) (nI ne) (nI nf) (nI na) (nI an) (nI tm) (nI cn) (nI cs) (nI bd) (nI lt) (nI nt) fx fy) h_61 (gm_ne h_61 h_24 (fun h => by cases h))
            have h_68 := gm_pass (k := h) (y := moO h (nI 0) (nI t.length) (nI nr) (nI 0) (nI tl) (nI ne) (nI nf) (nI na) (nI an) (nI tm) (nI cn) (nI cs) (nI bd) (nI lt) (nI nt) fx fy) h_62 (gm_ne h_62 h_24 (fun h => by cases h))
            have h_69 := gm_pass (k := h) (y := moO h (nI 0) (nI t.length) (nI nr) (nI 0) (nI tl) (nI ne) (nI nf) (nI na) (nI an) (nI tm) (nI cn) (nI cs) (nI bd) (nI lt) (nI nt) fx fy) h_63 (gm_ne h_63 h_24 (fun h => by cases h))
            have h_70 := gm_pass (k := h) (y := moO h (nI 0) (nI t.length) (nI nr) (nI 0) (nI tl) (nI ne) (nI nf) (nI na) (nI an) (nI tm) (nI cn) (nI cs) (nI bd) (nI lt) (nI nt) fx fy) h_25 (gm_ne h_25 h_24 (fun h => by cases h))
            have h_71 := gm_pass (k := h) (y := moO h (nI 0) (nI t.length) (nI nr) (nI 0) (nI tl) (nI ne) (nI nf) (nI na) (nI an) (nI tm) (nI cn) (nI cs) (nI bd) (nI lt) (nI nt) fx fy) h_26 (gm_ne h_26 h_24 (fun h => by cases h))
            have h_72 := gm_up_self M_12 h (moO h (nI 0) (nI t.length) (nI nr) (nI 0) (nI tl) (nI ne) (nI nf) (nI na) (nI an) (nI tm) (nI cn) (nI cs) (nI bd) (nI lt) (nI nt) fx fy)
            refine lv_bipush (v := (-2)) hx hb d_Mo_install_76 (by decide) ?_
            rw [← hQ]
            exact gc_iret hx hb hr hlk hP hS d_Mo_install_78 ⟨rfl, Or.inr (Or.inr (Or.inl ⟨fr1v_21, to1v_22, by omega, (fun j p q => hgo j p (by omega)), c_23, h_72, h_70, h_71, (fun z q0 q1 q2 => (gm_up_ne _ _ q0).trans ((hfr_27 z q0 q1 q2).trans ((hfrv z q0 q1 q2).trans (rfl)))), rfl⟩))⟩
          · skip
            have h_73 := (hfr_42 _ (gm_ne m1v ehv (fun h => by cases h)) (gm_ne m1v m7v (fun h => by simp at h)) (gm_ne m1v m8v (fun h => by simp at h))).trans m1v
            have h_74 := (hfr_42 _ (gm_ne m2v ehv (fun h => by cases h)) (gm_ne m2v m7v (fun h => by simp at h)) (gm_ne m2v m8v (fun h => by simp at h))).trans m2v
            have h_75 := (hfr_42 _ (gm_ne m3v ehv (fun h => by cases h)) (gm_ne m3v m7v (fun h => by simp at h)) (gm_ne m3v m8v (fun h => by simp at h))).trans m3v
            have h_76 := (hfr_42 _ (gm_ne m4v ehv (fun h => by cases h)) (gm_ne m4v m7v (fun h => by simp at h)) (gm_ne m4v m8v (fun h => by simp at h))).trans m4v
            have h_77 := (hfr_42 _ (gm_ne m5v ehv (fun h => by cases h)) (gm_ne m5v m7v (fun h => by simp at h)) (gm_ne m5v m8v (fun h => by simp at h))).trans m5v
            have h_78 := (hfr_42 _ (gm_ne m6v ehv (fun h => by cases h)) (gm_ne m6v m7v (fun h => by simp at h)) (gm_ne m6v m8v (fun h => by simp at h))).trans m6v
            refine W.eq (g2 := F0 m 61 ls [.int (nI 1)]) rfl ?_
            have hlt_79 := bgF_let c_36
            obtain ⟨hl3, hl4, hl5, hl6⟩ := hlt_79
            refine lv_if_eq (tgt := 71) hx hb d_Mo_install_61 (by decide) (fun q => absurd q (by decide)) (fun _ => ?_)
            refine lv_aload_n hx hb d_Mo_install_64 rfl (lv_at hl 0 rfl) ?_
            refine gm_get (C := R_Mo) (T := F_Mo) (n := 44) hx hb htl i_Mo hown hK hP h_39 rfl 11 (by decide) (htl _ k_754) (fun _ h => h) rfl d_Mo_install_65 ?_
            refine lv_if_ne (tgt := 79) hx hb d_Mo_install_68 (by decide) (fun _ => ?_) (fun q => absurd q (by decide))
            refine w_cut (α := Nat) (P := fun k0 => lix 1 (t.getD 0 32) = some k0) (nL := 3) (lv := fun k0 => [(0, .ref h)]) (pc2 := 118) (st2 := fun k0 => [.int (nI k0), .int (nI nr), .ref (h + 2)]) (fun k0 ls hl hj_118 => ?_) (fun jn_118 => ?_)
            · skip
              have hl : lv_has ls 3 [(0, .ref h)] := hl
              have hj_118 : lix 1 (t.getD 0 32) = some k0 := hj_118
              refine W.eq (g2 := F0 m 118 ls [.int (nI k0), .int (nI nr), .ref (h + 2)]) rfl ?_
              refine gz_iast hx hb hK hP hS 0 h_74 rfl (by omega) (by omega) d_Mo_install_118 (fun H locs hP hS => ?_)
              have hP : gm_P D cls A N (gm_up M_12 (h + 2) (.inl (ca 0, 17, .inl (iN (va_up ma nr k0))))) H := hP
              have h_80 := gm_pass (k := (h + 2)) (y := .inl (ca 0, 17, .inl (iN (va_up ma nr k0)))) h_73 (gm_ne h_73 h_74 (fun h => by simp at h))
              have h_81 := gm_pass (k := (h + 2)) (y := .inl (ca 0, 17, .inl (iN (va_up ma nr k0)))) h_75 (by omega)
              have h_82 := gm_pass (k := (h + 2)) (y := .inl (ca 0, 17, .inl (iN (va_up ma nr k0)))) h_76 (by omega)
              have h_83 := gm_pass (k := (h + 2)) (y := .inl (ca 0, 17, .inl (iN (va_up ma nr k0)))) h_77 (gm_ne h_77 h_74 (fun h => by simp at h))
              have h_84 := gm_pass (k := (h + 2)) (y := .inl (ca 0, 17, .inl (iN (va_up ma nr k0)))) h_78 (gm_ne h_78 h_74 (fun h => by simp at h))
              have h_85 := gm_pass (k := (h + 2)) (y := .inl (ca 0, 17, .inl (iN (va_up ma nr k0)))) h_39 (gm_ne h_39 h_74 (fun h => by cases h))
              have h_86 := gm_pass (k := (h + 2)) (y := .inl (ca 0, 17, .inl (iN (va_up ma nr k0)))) h_40 (gm_ne h_40 h_74 (fun h => by simp at h))
              have h_87 := gm_pass (k := (h + 2)) (y := .inl (ca 0, 17, .inl (iN (va_up ma nr k0)))) h_41 (gm_ne h_41 h_74 (fun h => by simp at h))
              have h_88 := gm_up_self M_12 (h + 2) (.inl (ca 0, 17, .inl (iN (va_up ma nr k0))))
              refine w_cut (α := Nat) (P := fun k1 => lix 2 (t.getD 1 32) = some k1) (nL := 3) (lv := fun k1 => [(0, .ref h)]) (pc2 := 158) (st2 := fun k1 => [.int (nI k1), .int (nI nr), .ref (h + 3)]) (fun k1 ls hl hj_158 => ?_) (fun jn_158 => ?_)
              · skip
                have hl : lv_has ls 3 [(0, .ref h)] := hl
                have hj_158 : lix 2 (t.getD 1 32) = some k1 := hj_158
                refine W.eq (g2 := F0 m 158 ls [.int (nI k1), .int (nI nr), .ref (h + 3)]) rfl ?_
                refine gz_iast hx hb hK hP hS 0 h_81 rfl (by omega) (by omega) d_Mo_install_158 (fun H locs hP hS => ?_)
                have hP : gm_P D cls A N (gm_up (gm_up M_12 (h + 2) (.inl (ca 0, 17, .inl (iN (va_up ma nr k0))))) (h + 3) (.inl (ca 0, 17, .inl (iN (va_up mw nr k1))))) H := hP
                have h_89 := gm_pass (k := (h + 3)) (y := .inl (ca 0, 17, .inl (iN (va_up mw nr k1)))) h_80 (gm_ne h_80 h_81 (fun h => by simp at h))
                have h_90 := gm_pass (k := (h + 3)) (y := .inl (ca 0, 17, .inl (iN (va_up mw nr k1)))) h_82 (by omega)
                have h_91 := gm_pass (k := (h + 3)) (y := .inl (ca 0, 17, .inl (iN (va_up mw nr k1)))) h_83 (gm_ne h_83 h_81 (fun h => by simp at h))
                have h_92 := gm_pass (k := (h + 3)) (y := .inl (ca 0, 17, .inl (iN (va_up mw nr k1)))) h_84 (gm_ne h_84 h_81 (fun h => by simp at h))
                have h_93 := gm_pass (k := (h + 3)) (y := .inl (ca 0, 17, .inl (iN (va_up mw nr k1)))) h_85 (gm_ne h_85 h_81 (fun h => by cases h))
                have h_94 := gm_pass (k := (h + 3)) (y := .inl (ca 0, 17, .inl (iN (va_up mw nr k1)))) h_86 (gm_ne h_86 h_81 (fun h => by simp at h))
                have h_95 := gm_pass (k := (h + 3)) (y := .inl (ca 0, 17, .inl (iN (va_up mw nr k1)))) h_87 (gm_ne h_87 h_81 (fun h => by simp at h))
                have h_96 := gm_pass (k := (h + 3)) (y := .inl (ca 0, 17, .inl (iN (va_up mw nr k1)))) h_88 (by omega)
                have h_97 := gm_up_self (gm_up M_12 (h + 2) (.inl (ca 0, 17, .inl (iN (va_up ma nr k0))))) (h + 3) (.inl (ca 0, 17, .inl (iN (va_up mw nr k1))))
                refine w_cut (α := Nat) (P := fun k2 => lix 3 (t.getD 2 32) = some k2) (nL := 3) (lv := fun k2 => [(0, .ref h)]) (pc2 := 213) (st2 := fun k2 => [.int (nI k2), .int (nI nr), .ref (h + 4)]) (fun k2 ls hl hj_213 => ?_) (fun jn_213 => ?_)
                · skip
                  have hl : lv_has ls 3 [(0, .ref h)] := hl
                  have hj_213 : lix 3 (t.getD 2 32) = some k2 := hj_213
                  refine W.eq (g2 := F0 m 213 ls [.int (nI k2), .int (nI nr), .ref (h + 4)]) rfl ?_
                  refine gz_iast hx hb hK hP hS 0 h_90 rfl (by omega) (by omega) d_Mo_install_213 (fun H locs hP hS => ?_)
                  have hP : gm_P D cls A N (gm_up (gm_up (gm_up M_12 (h + 2) (.inl (ca 0, 17, .inl (iN (va_up ma nr k0))))) (h + 3) (.inl (ca 0, 17, .inl (iN (va_up mw nr k1))))) (h + 4) (.inl (ca 0, 17, .inl (iN (va_up mp nr k2))))) H := hP
                  have h_98 := gm_pass (k := (h + 4)) (y := .inl (ca 0, 17, .inl (iN (va_up mp nr k2)))) h_89 (gm_ne h_89 h_90 (fun h => by simp at h))
                  have h_99 := gm_pass (k := (h + 4)) (y := .inl (ca 0, 17, .inl (iN (va_up mp nr k2)))) h_91 (gm_ne h_91 h_90 (fun h => by simp at h))
                  have h_100 := gm_pass (k := (h + 4)) (y := .inl (ca 0, 17, .inl (iN (va_up mp nr k2)))) h_92 (gm_ne h_92 h_90 (fun h => by simp at h))
                  have h_101 := gm_pass (k := (h + 4)) (y := .inl (ca 0, 17, .inl (iN (va_up mp nr k2)))) h_93 (gm_ne h_93 h_90 (fun h => by cases h))
                  have h_102 := gm_pass (k := (h + 4)) (y := .inl (ca 0, 17, .inl (iN (va_up mp nr k2)))) h_94 (gm_ne h_94 h_90 (fun h => by simp at h))
                  have h_103 := gm_pass (k := (h + 4)) (y := .inl (ca 0, 17, .inl (iN (va_up mp nr k2)))) h_95 (gm_ne h_95 h_90 (fun h => by simp at h))
                  have h_104 := gm_pass (k := (h + 4)) (y := .inl (ca 0, 17, .inl (iN (va_up mp nr k2)))) h_96 (by omega)
                  have h_105 := gm_pass (k := (h + 4)) (y := .inl (ca 0, 17, .inl (iN (va_up mp nr k2)))) h_97 (by omega)
                  have h_106 := gm_up_self (gm_up (gm_up M_12 (h + 2) (.inl (ca 0, 17, .inl (iN (va_up ma nr k0))))) (h + 3) (.inl (ca 0, 17, .inl (iN (va_up mw nr k1))))) (h + 4) (.inl (ca 0, 17, .inl (iN (va_up mp nr k2))))
                  refine lv_iconst (v := nI 0) hx hb d_Mo_install_214 (by decide) ?_
                  refine lv_istore_n (lv' := [(2, .int (nI 0)), (0, .ref h)]) hx hb d_Mo_install_215 rfl hl (by decide) rfl (fun ls hl => ?_)
                  refine lv_iload_n hx hb d_Mo_install_216 rfl (lv_at hl 0 rfl) ?_
                  refine lv_iconst (v := nI 3) hx hb d_Mo_install_217 (by decide) ?_
                  refine lv_icmp_ge (tgt := 265) hx hb d_Mo_install_218 (by decide) (fun q => absurd q (by decide)) (fun _ => ?_)
                  refine lv_aload_n hx hb d_Mo_install_221 rfl (lv_at hl 1 rfl) ?_
                  refine gm_get (C := R_Mo) (T := F_Mo) (n := 44) hx hb htl i_Mo hown hK hP h_101 rfl 6 (by decide) (htl _ k_749) (fun _ h => h) rfl d_Mo_install_222 ?_
                  refine lv_aload_n hx hb d_Mo_install_225 rfl (lv_at hl 1 rfl) ?_
                  refine gm_get (C := R_Mo) (T := F_Mo) (n := 44) hx hb htl i_Mo hown hK hP h_101 rfl 8 (by decide) (htl _ k_751) (fun _ h => h) rfl d_Mo_install_226 ?_
                  refine lv_iconst (v := nI 3) hx hb d_Mo_install_229 (by decide) ?_
                  refine lv_imul hx hb d_Mo_install_230 ?_
                  rw [show (nI nr) * (nI 3) = nI (nr * 3) from pk_mul _ _]
                  refine lv_iload_n hx hb d_Mo_install_231 rfl (lv_at hl 0 rfl) ?_
                  refine lv_iadd hx hb d_Mo_install_232 ?_
                  rw [show (nI (nr * 3)) + (nI 0) = nI ((nr * 3) + 0) from nI_add _ _]
                  refine lv_aload_n hx hb d_Mo_install_233 rfl (lv_at hl 1 rfl) ?_
                  refine gm_get (C := R_Mo) (T := F_Mo) (n := 44) hx hb htl i_Mo hown hK hP h_101 rfl 9 (by decide) (htl _ k_752) (fun _ h => h) rfl d_Mo_install_234 ?_
                  refine lv_iload_n hx hb d_Mo_install_237 rfl (lv_at hl 0 rfl) ?_
                  refine gz_iald hx hb hK hP 0 h_102 rfl (by omega) (by omega) d_Mo_install_238 ?_
                  rw [show fr1v_34 0 = x1v_28 from c_38.1]
                  refine gz_iast hx hb hK hP hS 0 h_99 rfl (by omega) (by omega) d_Mo_install_239 (fun H locs hP hS => ?_)
                  have hP : gm_P D cls A N (gm_up (gm_up (gm_up (gm_up M_12 (h + 2) (.inl (ca 0, 17, .inl (iN (va_up ma nr k0))))) (h + 3) (.inl (ca 0, 17, .inl (iN (va_up mw nr k1))))) (h + 4) (.inl (ca 0, 17, .inl (iN (va_up mp nr k2))))) (h + 5) (.inl (ca 0, 51, .inl (iN (va_up ml ((nr * 3) + 0) x1v_28))))) H := hP
                  have h_107 := gm_pass (k := (h + 5)) (y := .inl (ca 0, 51, .inl (iN (va_up ml ((nr * 3) + 0) x1v_28)))) h_98 (gm_ne h_98 h_99 (fun h => by simp at h))
                  have h_108 := gm_pass (k := (h + 5)) (y := .inl (ca 0, 51, .inl (iN (va_up ml ((nr * 3) + 0) x1v_28)))) h_100 (by omega)
                  have h_109 := gm_pass (k := (h + 5)) (y := .inl (ca 0, 51, .inl (iN (va_up ml ((nr * 3) + 0) x1v_28)))) h_101 (gm_ne h_101 h_99 (fun h => by cases h))
                  have h_110 := gm_pass (k := (h + 5)) (y := .inl (ca 0, 51, .inl (iN (va_up ml ((nr * 3) + 0) x1v_28)))) h_102 (gm_ne h_102 h_99 (fun h => by simp at h))
                  have h_111 := gm_pass (k := (h + 5)) (y := .inl (ca 0, 51, .inl (iN (va_up ml ((nr * 3) + 0) x1v_28)))) h_103 (gm_ne h_103 h_99 (fun h => by simp at h))
                  have h_112 := gm_pass (k := (h + 5)) (y := .inl (ca 0, 51, .inl (iN (va_up ml ((nr * 3) + 0) x1v_28)))) h_104 (gm_ne h_104 h_99 (fun h => by simp at h))
                  have h_113 := gm_pass (k := (h + 5)) (y := .inl (ca 0, 51, .inl (iN (va_up ml ((nr * 3) + 0) x1v_28)))) h_105 (gm_ne h_105 h_99 (fun h => by simp at h))
                  have h_114 := gm_pass (k := (h + 5)) (y := .inl (ca 0, 51, .inl (iN (va_up ml ((nr * 3) + 0) x1v_28)))) h_106 (gm_ne h_106 h_99 (fun h => by simp at h))
                  have h_115 := gm_up_self (gm_up (gm_up (gm_up M_12 (h + 2) (.inl (ca 0, 17, .inl (iN (va_up ma nr k0))))) (h + 3) (.inl (ca 0, 17, .inl (iN (va_up mw nr k1))))) (h + 4) (.inl (ca 0, 17, .inl (iN (va_up mp nr k2))))) (h + 5) (.inl (ca 0, 51, .inl (iN (va_up ml ((nr * 3) + 0) x1v_28))))
                  refine lv_aload_n hx hb d_Mo_install_240 rfl (lv_at hl 1 rfl) ?_
                  refine gm_get (C := R_Mo) (T := F_Mo) (n := 44) hx hb htl i_Mo hown hK hP h_109 rfl 7 (by decide) (htl _ k_750) (fun _ h => h) rfl d_Mo_install_241 ?_
                  refine lv_aload_n hx hb d_Mo_install_244 rfl (lv_at hl 1 rfl) ?_
                  refine gm_get (C := R_Mo) (T := F_Mo) (n := 44) hx hb htl i_Mo hown hK hP h_109 rfl 8 (by decide) (htl _ k_751) (fun _ h => h) rfl d_Mo_install_245 ?_
                  refine lv_iconst (v := nI 3) hx hb d_Mo_install_248 (by decide) ?_
                  refine lv_imul hx hb d_Mo_install_249 ?_
                  rw [show (nI nr) * (nI 3) = nI (nr * 3) from pk_mul _ _]
                  refine lv_iload_n hx hb d_Mo_install_250 rfl (lv_at hl 0 rfl) ?_
                  refine lv_iadd hx hb d_Mo_install_251 ?_
                  rw [show (nI (nr * 3)) + (nI 0) = nI ((nr * 3) + 0) from nI_add _ _]
                  refine lv_aload_n hx hb d_Mo_install_252 rfl (lv_at hl 1 rfl) ?_
                  refine gm_get (C := R_Mo) (T := F_Mo) (n := 44) hx hb htl i_Mo hown hK hP h_109 rfl 10 (by decide) (htl _ k_753) (fun _ h => h) rfl d_Mo_install_253 ?_
                  refine lv_iload_n hx hb d_Mo_install_256 rfl (lv_at hl 0 rfl) ?_
                  refine gz_iald hx hb hK hP 0 h_111 rfl (by omega) (by omega) d_Mo_install_257 ?_
                  rw [show to1v_35 0 = y1v_31 from c_38.2.2.2.1]
                  refine gz_iast hx hb hK hP hS 0 h_108 rfl (by omega) (by omega) d_Mo_install_258 (fun H locs hP hS => ?_)
                  have hP : gm_P D cls A N (gm_up (gm_up (gm_up (gm_up (gm_up M_12 (h + 2) (.inl (ca 0, 17, .inl (iN (va_up ma nr k0))))) (h + 3) (.inl (ca 0, 17, .inl (iN (va_up mw nr k1))))) (h + 4) (.inl (ca 0, 17, .inl (iN (va_up mp nr k2))))) (h + 5) (.inl (ca 0, 51, .inl (iN (va_up ml ((nr * 3) + 0) x1v_28))))) (h + 6) (.inl (ca 0, 51, .inl (iN (va_up mh ((nr * 3) + 0) y1v_31))))) H := hP
                  have h_116 := gm_pass (k := (h + 6)) (y := .inl (ca 0, 51, .inl (iN (va_up mh ((nr * 3) + 0) y1v_31)))) h_107 (gm_ne h_107 h_108 (fun h => by simp at h))
                  have h_117 := gm_pass (k := (h + 6)) (y := .inl (ca 0, 51, .inl (iN (va_up mh ((nr * 3) + 0) y1v_31)))) h_109 (gm_ne h_109 h_108 (fun h => by cases h))
                  have h_118 := gm_pass (k := (h + 6)) (y := .inl (ca 0, 51, .inl (iN (va_up mh ((nr * 3) + 0) y1v_31)))) h_110 (gm_ne h_110 h_108 (fun h => by simp at h))
                  have h_119 := gm_pass (k := (h + 6)) (y := .inl (ca 0, 51, .inl (iN (va_up mh ((nr * 3) + 0) y1v_31)))) h_111 (gm_ne h_111 h_108 (fun h => by simp at h))
                  have h_120 := gm_pass (k := (h + 6)) (y := .inl (ca 0, 51, .inl (iN (va_up mh ((nr * 3) + 0) y1v_31)))) h_112 (gm_ne h_112 h_108 (fun h => by simp at h))
                  have h_121 := gm_pass (k := (h + 6)) (y := .inl (ca 0, 51, .inl (iN (va_up mh ((nr * 3) + 0) y1v_31)))) h_113 (gm_ne h_113 h_108 (fun h => by simp at h))
                  have h_122 := gm_pass (k := (h + 6)) (y := .inl (ca 0, 51, .inl (iN (va_up mh ((nr * 3) + 0) y1v_31)))) h_114 (gm_ne h_114 h_108 (fun h => by simp at h))
                  have h_123 := gm_pass (k := (h + 6)) (y := .inl (ca 0, 51, .inl (iN (va_up mh ((nr * 3) + 0) y1v_31)))) h_115 (by omega)
                  have h_124 := gm_up_self (gm_up (gm_up (gm_up (gm_up M_12 (h + 2) (.inl (ca 0, 17, .inl (iN (va_up ma nr k0))))) (h + 3) (.inl (ca 0, 17, .inl (iN (va_up mw nr k1))))) (h + 4) (.inl (ca 0, 17, .inl (iN (va_up mp nr k2))))) (h + 5) (.inl (ca 0, 51, .inl (iN (va_up ml ((nr * 3) + 0) x1v_28))))) (h + 6) (.inl (ca 0, 51, .inl (iN (va_up mh ((nr * 3) + 0) y1v_31))))
                  refine lv_iinc (v := nI 1) (lv' := [(2, .int (nI 1)), (0, .ref h)]) hx hb d_Mo_install_259 hl (k := 0) rfl (by decide) (by decide) rfl (fun ls hl => ?_)
                  refine lv_goto (tgt := 216) hx hb d_Mo_install_262 (by decide) ?_
                  refine lv_iload_n hx hb d_Mo_install_216 rfl (lv_at hl 0 rfl) ?_
                  refine lv_iconst (v := nI 3) hx hb d_Mo_install_217 (by decide) ?_
                  refine lv_icmp_ge (tgt := 265) hx hb d_Mo_install_218 (by decide) (fun q => absurd q (by decide)) (fun _ => ?_)
                  refine lv_aload_n hx hb d_Mo_install_221 rfl (lv_at hl 1 rfl) ?_
                  refine gm_get (C := R_Mo) (T := F_Mo) (n := 44) hx hb htl i_Mo hown hK hP h_117 rfl 6 (by decide) (htl _ k_749) (fun _ h => h) rfl d_Mo_install_222 ?_
                  refine lv_aload_n hx hb d_Mo_install_225 rfl (lv_at hl 1 rfl) ?_
                  refine gm_get (C := R_Mo) (T := F_Mo) (n := 44) hx hb htl i_Mo hown hK hP h_117 rfl 8 (by decide) (htl _ k_751) (fun _ h => h) rfl d_Mo_install_226 ?_
                  refine lv_iconst (v := nI 3) hx hb d_Mo_install_229 (by decide) ?_
                  refine lv_imul hx hb d_Mo_install_230 ?_
                  rw [show (nI nr) * (nI 3) = nI (nr * 3) from pk_mul _ _]
                  refine lv_iload_n hx hb d_Mo_install_231 rfl (lv_at hl 0 rfl) ?_
                  refine lv_iadd hx hb d_Mo_install_232 ?_
                  rw [show (nI (nr * 3)) + (nI 1) = nI ((nr * 3) + 1) from nI_add _ _]
                  refine lv_aload_n hx hb d_Mo_install_233 rfl (lv_at hl 1 rfl) ?_
                  refine gm_get (C := R_Mo) (T := F_Mo) (n := 44) hx hb htl i_Mo hown hK hP h_117 rfl 9 (by decide) (htl _ k_752) (fun _ h => h) rfl d_Mo_install_234 ?_
                  refine lv_iload_n hx hb d_Mo_install_237 rfl (lv_at hl 0 rfl) ?_
                  refine gz_iald hx hb hK hP 0 h_118 rfl (by omega) (by omega) d_Mo_install_238 ?_
                  rw [show fr1v_34 1 = x2v_29 from c_38.2.1]
                  refine gz_iast hx hb hK hP hS 0 h_123 rfl (by omega) (by omega) d_Mo_install_239 (fun H locs hP hS => ?_)
                  have he_125 : gm_up (gm_up (gm_up (gm_up (gm_up (gm_up M_12 (h + 2) (.inl (ca 0, 17, .inl (iN (va_up ma nr k0))))) (h + 3) (.inl (ca 0, 17, .inl (iN (va_up mw nr k1))))) (h + 4) (.inl (ca 0, 17, .inl (iN (va_up mp nr k2))))) (h + 5) (.inl (ca 0, 51, .inl (iN (va_up ml ((nr * 3) + 0) x1v_28))))) (h + 6) (.inl (ca 0, 51, .inl (iN (va_up mh ((nr * 3) + 0) y1v_31))))) (h + 5) (.inl (ca 0, 51, .inl (iN (va_up (va_up ml ((nr * 3) + 0) x1v_28) ((nr * 3) + 1) x2v_29)))) = gm_up (gm_up (gm_up (gm_up (gm_up M_12 (h + 2) (.inl (ca 0, 17, .inl (iN (va_up ma nr k0))))) (h + 3) (.inl (ca 0, 17, .inl (iN (va_up mw nr k1))))) (h + 4) (.inl (ca 0, 17, .inl (iN (va_up mp nr k2))))) (h + 5) (.inl (ca 0, 51, .inl (iN (va_up (va_up ml ((nr * 3) + 0) x1v_28) ((nr * 3) + 1) x2v_29))))) (h + 6) (.inl (ca 0, 51, .inl (iN (va_up mh ((nr * 3) + 0) y1v_31)))) := (gm_swap (by omega)).trans (congrArg (fun Z => gm_up Z (h + 6) (.inl (ca 0, 51, .inl (iN (va_up mh ((nr * 3) + 0) y1v_31))))) (gm_up_up _ _ _ _))
                  have hP := Eq.mp (congrArg (fun Z => gm_P D cls A N Z H) he_125) hP
                  have h_126 := (congrFun he_125 _).symm.trans (gm_pass (k := (h + 5)) (y := .inl (ca 0, 51, .inl (iN (va_up (va_up ml ((nr * 3) + 0) x1v_28) ((nr * 3) + 1) x2v_29)))) h_116 (gm_ne h_116 h_123 (fun h => by simp at h)))
                  have h_127 := (congrFun he_125 _).symm.trans (gm_pass (k := (h + 5)) (y := .inl (ca 0, 51, .inl (iN (va_up (va_up ml ((nr * 3) + 0) x1v_28) ((nr * 3) + 1) x2v_29)))) h_117 (gm_ne h_117 h_123 (fun h => by cases h)))
                  have h_128 := (congrFun he_125 _).symm.trans (gm_pass (k := (h + 5)) (y := .inl (ca 0, 51, .inl (iN (va_up (va_up ml ((nr * 3) + 0) x1v_28) ((nr * 3) + 1) x2v_29)))) h_118 (gm_ne h_118 h_123 (fun h => by simp at h)))
                  have h_129 := (congrFun he_125 _).symm.trans (gm_pass (k := (h + 5)) (y := .inl (ca 0, 51, .inl (iN (va_up (va_up ml ((nr * 3) + 0) x1v_28) ((nr * 3) + 1) x2v_29)))) h_119 (gm_ne h_119 h_123 (fun h => by simp at h)))
                  have h_130 := (congrFun he_125 _).symm.trans (gm_pass (k := (h + 5)) (y := .inl (ca 0, 51, .inl (iN (va_up (va_up ml ((nr * 3) + 0) x1v_28) ((nr * 3) + 1) x2v_29)))) h_120 (gm_ne h_120 h_123 (fun h => by simp at h)))
                  have h_131 := (congrFun he_125 _).symm.trans (gm_pass (k := (h + 5)) (y := .inl (ca 0, 51, .inl (iN (va_up (va_up ml ((nr * 3) + 0) x1v_28) ((nr * 3) + 1) x2v_29)))) h_121 (gm_ne h_121 h_123 (fun h => by simp at h)))
                  have h_132 := (congrFun he_125 _).symm.trans (gm_pass (k := (h + 5)) (y := .inl (ca 0, 51, .inl (iN (va_up (va_up ml ((nr * 3) + 0) x1v_28) ((nr * 3) + 1) x2v_29)))) h_122 (gm_ne h_122 h_123 (fun h => by simp at h)))
                  have h_133 := (congrFun he_125 _).symm.trans (gm_pass (k := (h + 5)) (y := .inl (ca 0, 51, .inl (iN (va_up (va_up ml ((nr * 3) + 0) x1v_28) ((nr * 3) + 1) x2v_29)))) h_124 (by omega))
                  have h_134 := (congrFun he_125 _).symm.trans (gm_up_self (gm_up (gm_up (gm_up (gm_up (gm_up M_12 (h + 2) (.inl (ca 0, 17, .inl (iN (va_up ma nr k0))))) (h + 3) (.inl (ca 0, 17, .inl (iN (va_up mw nr k1))))) (h + 4) (.inl (ca 0, 17, .inl (iN (va_up mp nr k2))))) (h + 5) (.inl (ca 0, 51, .inl (iN (va_up ml ((nr * 3) + 0) x1v_28))))) (h + 6) (.inl (ca 0, 51, .inl (iN (va_up mh ((nr * 3) + 0) y1v_31))))) (h + 5) (.inl (ca 0, 51, .inl (iN (va_up (va_up ml ((nr * 3) + 0) x1v_28) ((nr * 3) + 1) x2v_29)))))
                  refine lv_aload_n hx hb d_Mo_install_240 rfl (lv_at hl 1 rfl) ?_
                  refine gm_get (C := R_Mo) (T := F_Mo) (n := 44) hx hb htl i_Mo hown hK hP h_127 rfl 7 (by decide) (htl _ k_750) (fun _ h => h) rfl d_Mo_install_241 ?_
                  refine lv_aload_n hx hb d_Mo_install_244 rfl (lv_at hl 1 rfl) ?_
                  refine gm_get (C := R_Mo) (T := F_Mo) (n := 44) hx hb htl i_Mo hown hK hP h_127 rfl 8 (by decide) (htl _ k_751) (fun _ h => h) rfl d_Mo_install_245 ?_
                  refine lv_iconst (v := nI 3) hx hb d_Mo_install_248 (by decide) ?_
                  refine lv_imul hx hb d_Mo_install_249 ?_
                  rw [show (nI nr) * (nI 3) = nI (nr * 3) from pk_mul _ _]
                  refine lv_iload_n hx hb d_Mo_install_250 rfl (lv_at hl 0 rfl) ?_
                  refine lv_iadd hx hb d_Mo_install_251 ?_
                  rw [show (nI (nr * 3)) + (nI 1) = nI ((nr * 3) + 1) from nI_add _ _]
                  refine lv_aload_n hx hb d_Mo_install_252 rfl (lv_at hl 1 rfl) ?_
                  refine gm_get (C := R_Mo) (T := F_Mo) (n := 44) hx hb htl i_Mo hown hK hP h_127 rfl 10 (by decide) (htl _ k_753) (fun _ h => h) rfl d_Mo_install_253 ?_
                  refine lv_iload_n hx hb d_Mo_install_256 rfl (lv_at hl 0 rfl) ?_
                  refine gz_iald hx hb hK hP 0 h_129 rfl (by omega) (by omega) d_Mo_install_257 ?_
                  rw [show to1v_35 1 = y2v_32 from c_38.2.2.2.2.1]
                  refine gz_iast hx hb hK hP hS 0 h_133 rfl (by omega) (by omega) d_Mo_install_258 (fun H locs hP hS => ?_)
                  have he_135 : gm_up (gm_up (gm_up (gm_up (gm_up (gm_up M_12 (h + 2) (.inl (ca 0, 17, .inl (iN (va_up ma nr k0))))) (h + 3) (.inl (ca 0, 17, .inl (iN (va_up mw nr k1))))) (h + 4) (.inl (ca 0, 17, .inl (iN (va_up mp nr k2))))) (h + 5) (.inl (ca 0, 51, .inl (iN (va_up (va_up ml ((nr * 3) + 0) x1v_28) ((nr * 3) + 1) x2v_29))))) (h + 6) (.inl (ca 0, 51, .inl (iN (va_up mh ((nr * 3) + 0) y1v_31))))) (h + 6) (.inl (ca 0, 51, .inl (iN (va_up (va_up mh ((nr * 3) + 0) y1v_31) ((nr * 3) + 1) y2v_32)))) = gm_up (gm_up (gm_up (gm_up (gm_up M_12 (h + 2) (.inl (ca 0, 17, .inl (iN (va_up ma nr k0))))) (h + 3) (.inl (ca 0, 17, .inl (iN (va_up mw nr k1))))) (h + 4) (.inl (ca 0, 17, .inl (iN (va_up mp nr k2))))) (h + 5) (.inl (ca 0, 51, .inl (iN (va_up (va_up ml ((nr * 3) + 0) x1v_28) ((nr * 3) + 1) x2v_29))))) (h + 6) (.inl (ca 0, 51, .inl (iN (va_up (va_up mh ((nr * 3) + 0) y1v_31) ((nr * 3) + 1) y2v_32)))) := gm_up_up _ _ _ _
                  have hP := Eq.mp (congrArg (fun Z => gm_P D cls A N Z H) he_135) hP
                  have h_136 := (congrFun he_135 _).symm.trans (gm_pass (k := (h + 6)) (y := .inl (ca 0, 51, .inl (iN (va_up (va_up mh ((nr * 3) + 0) y1v_31) ((nr * 3) + 1) y2v_32)))) h_126 (gm_ne h_126 h_133 (fun h => by simp at h)))
                  have h_137 := (congrFun he_135 _).symm.trans (gm_pass (k := (h + 6)) (y := .inl (ca 0, 51, .inl (iN (va_up (va_up mh ((nr * 3) + 0) y1v_31) ((nr * 3) + 1) y2v_32)))) h_127 (gm_ne h_127 h_133 (fun h => by cases h)))
                  have h_138 := (congrFun he_135 _).symm.trans (gm_pass (k := (h + 6)) (y := .inl (ca 0, 51, .inl (iN (va_up (va_up mh ((nr * 3) + 0) y1v_31) ((nr * 3) + 1) y2v_32)))) h_128 (gm_ne h_128 h_133 (fun h => by simp at h)))
                  have h_139 := (congrFun he_135 _).symm.trans (gm_pass (k := (h + 6)) (y := .inl (ca 0, 51, .inl (iN (va_up (va_up mh ((nr * 3) + 0) y1v_31) ((nr * 3) + 1) y2v_32)))) h_129 (gm_ne h_129 h_133 (fun h => by simp at h)))
                  have h_140 := (congrFun he_135 _).symm.trans (gm_pass (k := (h + 6)) (y := .inl (ca 0, 51, .inl (iN (va_up (va_up mh ((nr * 3) + 0) y1v_31) ((nr * 3) + 1) y2v_32)))) h_130 (gm_ne h_130 h_133 (fun h => by simp at h)))
                  have h_141 := (congrFun he_135 _).symm.trans (gm_pass (k := (h + 6)) (y := .inl (ca 0, 51, .inl (iN (va_up (va_up mh ((nr * 3) + 0) y1v_31) ((nr * 3) + 1) y2v_32)))) h_131 (gm_ne h_131 h_133 (fun h => by simp at h)))
                  have h_142 := (congrFun he_135 _).symm.trans (gm_pass (k := (h + 6)) (y := .inl (ca 0, 51, .inl (iN (va_up (va_up mh ((nr * 3) + 0) y1v_31) ((nr * 3) + 1) y2v_32)))) h_132 (gm_ne h_132 h_133 (fun h => by simp at h)))
                  have h_143 := (congrFun he_135 _).symm.trans (gm_pass (k := (h + 6)) (y := .inl (ca 0, 51, .inl (iN (va_up (va_up mh ((nr * 3) + 0) y1v_31) ((nr * 3) + 1) y2v_32)))) h_134 (by omega))
                  have h_144 := (congrFun he_135 _).symm.trans (gm_up_self (gm_up (gm_up (gm_up (gm_up (gm_up M_12 (h + 2) (.inl (ca 0, 17, .inl (iN (va_up ma nr k0))))) (h + 3) (.inl (ca 0, 17, .inl (iN (va_up mw nr k1))))) (h + 4) (.inl (ca 0, 17, .inl (iN (va_up mp nr k2))))) (h + 5) (.inl (ca 0, 51, .inl (iN (va_up (va_up ml ((nr * 3) + 0) x1v_28) ((nr * 3) + 1) x2v_29))))) (h + 6) (.inl (ca 0, 51, .inl (iN (va_up mh ((nr * 3) + 0) y1v_31))))) (h + 6) (.inl (ca 0, 51, .inl (iN (va_up (va_up mh ((nr * 3) + 0) y1v_31) ((nr * 3) + 1) y2v_32)))))
                  refine lv_iinc (v := nI 2) (lv' := [(2, .int (nI 2)), (0, .ref h)]) hx hb d_Mo_install_259 hl (k := 0) rfl (by decide) (by decide) rfl (fun ls hl => ?_)
                  refine lv_goto (tgt := 216) hx hb d_Mo_install_262 (by decide) ?_
                  refine lv_iload_n hx hb d_Mo_install_216 rfl (lv_at hl 0 rfl) ?_
                  refine lv_iconst (v := nI 3) hx hb d_Mo_install_217 (by decide) ?_
                  refine lv_icmp_ge (tgt := 265) hx hb d_Mo_install_218 (by decide) (fun q => absurd q (by decide)) (fun _ => ?_)
                  refine lv_aload_n hx hb d_Mo_install_221 rfl (lv_at hl 1 rfl) ?_
                  refine gm_get (C := R_Mo) (T := F_Mo) (n := 44) hx hb htl i_Mo hown hK hP h_137 rfl 6 (by decide) (htl _ k_749) (fun _ h => h) rfl d_Mo_install_222 ?_
                  refine lv_aload_n hx hb d_Mo_install_225 rfl (lv_at hl 1 rfl) ?_
                  refine gm_get (C := R_Mo) (T := F_Mo) (n := 44) hx hb htl i_Mo hown hK hP h_137 rfl 8 (by decide) (htl _ k_751) (fun _ h => h) rfl d_Mo_install_226 ?_
                  refine lv_iconst (v := nI 3) hx hb d_Mo_install_229 (by decide) ?_
                  refine lv_imul hx hb d_Mo_install_230 ?_
                  rw [show (nI nr) * (nI 3) = nI (nr * 3) from pk_mul _ _]
                  refine lv_iload_n hx hb d_Mo_install_231 rfl (lv_at hl 0 rfl) ?_
                  refine lv_iadd hx hb d_Mo_install_232 ?_
                  rw [show (nI (nr * 3)) + (nI 2) = nI ((nr * 3) + 2) from nI_add _ _]
                  refine lv_aload_n hx hb d_Mo_install_233 rfl (lv_at hl 1 rfl) ?_
                  refine gm_get (C := R_Mo) (T := F_Mo) (n := 44) hx hb htl i_Mo hown hK hP h_137 rfl 9 (by decide) (htl _ k_752) (fun _ h => h) rfl d_Mo_install_234 ?_
                  refine lv_iload_n hx hb d_Mo_install_237 rfl (lv_at hl 0 rfl) ?_
                  refine gz_iald hx hb hK hP 0 h_138 rfl (by omega) (by omega) d_Mo_install_238 ?_
                  rw [show fr1v_34 2 = x3v_30 from c_38.2.2.1]
                  refine gz_iast hx hb hK hP hS 0 h_143 rfl (by omega) (by omega) d_Mo_install_239 (fun H locs hP hS => ?_)
                  have he_145 : gm_up (gm_up (gm_up (gm_up (gm_up (gm_up M_12 (h + 2) (.inl (ca 0, 17, .inl (iN (va_up ma nr k0))))) (h + 3) (.inl (ca 0, 17, .inl (iN (va_up mw nr k1))))) (h + 4) (.inl (ca 0, 17, .inl (iN (va_up mp nr k2))))) (h + 5) (.inl (ca 0, 51, .inl (iN (va_up (va_up ml ((nr * 3) + 0) x1v_28) ((nr * 3) + 1) x2v_29))))) (h + 6) (.inl (ca 0, 51, .inl (iN (va_up (va_up mh ((nr * 3) + 0) y1v_31) ((nr * 3) + 1) y2v_32))))) (h + 5) (.inl (ca 0, 51, .inl (iN (va_up (va_up (va_up ml ((nr * 3) + 0) x1v_28) ((nr * 3) + 1) x2v_29) ((nr * 3) + 2) x3v_30)))) = gm_up (gm_up (gm_up (gm_up (gm_up M_12 (h + 2) (.inl (ca 0, 17, .inl (iN (va_up ma nr k0))))) (h + 3) (.inl (ca 0, 17, .inl (iN (va_up mw nr k1))))) (h + 4) (.inl (ca 0, 17, .inl (iN (va_up mp nr k2))))) (h + 5) (.inl (ca 0, 51, .inl (iN (va_up (va_up (va_up ml ((nr * 3) + 0) x1v_28) ((nr * 3) + 1) x2v_29) ((nr * 3) + 2) x3v_30))))) (h + 6) (.inl (ca 0, 51, .inl (iN (va_up (va_up mh ((nr * 3) + 0) y1v_31) ((nr * 3) + 1) y2v_32)))) := (gm_swap (by omega)).trans (congrArg (fun Z => gm_up Z (h + 6) (.inl (ca 0, 51, .inl (iN (va_up (va_up mh ((nr * 3) + 0) y1v_31) ((nr * 3) + 1) y2v_32))))) (gm_up_up _ _ _ _))
                  have hP := Eq.mp (congrArg (fun Z => gm_P D cls A N Z H) he_145) hP
                  have h_146 := (congrFun he_145 _).symm.trans (gm_pass (k := (h + 5)) (y := .inl (ca 0, 51, .inl (iN (va_up (va_up (va_up ml ((nr * 3) + 0) x1v_28) ((nr * 3) + 1) x2v_29) ((nr * 3) + 2) x3v_30)))) h_136 (gm_ne h_136 h_143 (fun h => by simp at h)))
                  have h_147 := (congrFun he_145 _).symm.trans (gm_pass (k := (h + 5)) (y := .inl (ca 0, 51, .inl (iN (va_up (va_up (va_up ml ((nr * 3) + 0) x1v_28) ((nr * 3) + 1) x2v_29) ((nr * 3) + 2) x3v_30)))) h_137 (gm_ne h_137 h_143 (fun h => by cases h)))
                  have h_148 := (congrFun he_145 _).symm.trans (gm_pass (k := (h + 5)) (y := .inl (ca 0, 51, .inl (iN (va_up (va_up (va_up ml ((nr * 3) + 0) x1v_28) ((nr * 3) + 1) x2v_29) ((nr * 3) + 2) x3v_30)))) h_138 (gm_ne h_138 h_143 (fun h => by simp at h)))
                  have h_149 := (congrFun he_145 _).symm.trans (gm_pass (k := (h + 5)) (y := .inl (ca 0, 51, .inl (iN (va_up (va_up (va_up ml ((nr * 3) + 0) x1v_28) ((nr * 3) + 1) x2v_29) ((nr * 3) + 2) x3v_30)))) h_139 (gm_ne h_139 h_143 (fun h => by simp at h)))
                  have h_150 := (congrFun he_145 _).symm.trans (gm_pass (k := (h + 5)) (y := .inl (ca 0, 51, .inl (iN (va_up (va_up (va_up ml ((nr * 3) + 0) x1v_28) ((nr * 3) + 1) x2v_29) ((nr * 3) + 2) x3v_30)))) h_140 (gm_ne h_140 h_143 (fun h => by simp at h)))
                  have h_151 := (congrFun he_145 _).symm.trans (gm_pass (k := (h + 5)) (y := .inl (ca 0, 51, .inl (iN (va_up (va_up (va_up ml ((nr * 3) + 0) x1v_28) ((nr * 3) + 1) x2v_29) ((nr * 3) + 2) x3v_30)))) h_141 (gm_ne h_141 h_143 (fun h => by simp at h)))
                  have h_152 := (congrFun he_145 _).symm.trans (gm_pass (k := (h + 5)) (y := .inl (ca 0, 51, .inl (iN (va_up (va_up (va_up ml ((nr * 3) + 0) x1v_28) ((nr * 3) + 1) x2v_29) ((nr * 3) + 2) x3v_30)))) h_142 (gm_ne h_142 h_143 (fun h => by simp at h)))
                  have h_153 := (congrFun he_145 _).symm.trans (gm_pass (k := (h + 5)) (y := .inl (ca 0, 51, .inl (iN (va_up (va_up (va_up ml ((nr * 3) + 0) x1v_28) ((nr * 3) + 1) x2v_29) ((nr * 3) + 2) x3v_30)))) h_144 (by omega))
                  have h_154 := (congrFun he_145 _).symm.trans (gm_up_self (gm_up (gm_up (gm_up (gm_up (gm_up M_12 (h + 2) (.inl (ca 0, 17, .inl (iN (va_up ma nr k0))))) (h + 3) (.inl (ca 0, 17, .inl (iN (va_up mw nr k1))))) (h + 4) (.inl (ca 0, 17, .inl (iN (va_up mp nr k2))))) (h + 5) (.inl (ca 0, 51, .inl (iN (va_up (va_up ml ((nr * 3) + 0) x1v_28) ((nr * 3) + 1) x2v_29))))) (h + 6) (.inl (ca 0, 51, .inl (iN (va_up (va_up mh ((nr * 3) + 0) y1v_31) ((nr * 3) + 1) y2v_32))))) (h + 5) (.inl (ca 0, 51, .inl (iN (va_up (va_up (va_up ml ((nr * 3) + 0) x1v_28) ((nr * 3) + 1) x2v_29) ((nr * 3) + 2) x3v_30)))))
                  refine lv_aload_n hx hb d_Mo_install_240 rfl (lv_at hl 1 rfl) ?_
                  refine gm_get (C := R_Mo) (T := F_Mo) (n := 44) hx hb htl i_Mo hown hK hP h_147 rfl 7 (by decide) (htl _ k_750) (fun _ h => h) rfl d_Mo_install_241 ?_
                  refine lv_aload_n hx hb d_Mo_install_244 rfl (lv_at hl 1 rfl) ?_
                  refine gm_get (C := R_Mo) (T := F_Mo) (n := 44) hx hb htl i_Mo hown hK hP h_147 rfl 8 (by decide) (htl _ k_751) (fun _ h => h) rfl d_Mo_install_245 ?_
                  refine lv_iconst (v := nI 3) hx hb d_Mo_install_248 (by decide) ?_
                  refine lv_imul hx hb d_Mo_install_249 ?_
                  rw [show (nI nr) * (nI 3) = nI (nr * 3) from pk_mul _ _]
                  refine lv_iload_n hx hb d_Mo_install_250 rfl (lv_at hl 0 rfl) ?_
                  refine lv_iadd hx hb d_Mo_install_251 ?_
                  rw [show (nI (nr * 3)) + (nI 2) = nI ((nr * 3) + 2) from nI_add _ _]
                  refine lv_aload_n hx hb d_Mo_install_252 rfl (lv_at hl 1 rfl) ?_
                  refine gm_get (C := R_Mo) (T := F_Mo) (n := 44) hx hb htl i_Mo hown hK hP h_147 rfl 10 (by decide) (htl _ k_753) (fun _ h => h) rfl d_Mo_install_253 ?_
                  refine lv_iload_n hx hb d_Mo_install_256 rfl (lv_at hl 0 rfl) ?_
                  refine gz_iald hx hb hK hP 0 h_149 rfl (by omega) (by omega) d_Mo_install_257 ?_
                  rw [show to1v_35 2 = y3v_33 from c_38.2.2.2.2.2]
                  refine gz_iast hx hb hK hP hS 0 h_153 rfl (by omega) (by omega) d_Mo_install_258 (fun H locs hP hS => ?_)
                  have he_155 : gm_up (gm_up (gm_up (gm_up (gm_up (gm_up M_12 (h + 2) (.inl (ca 0, 17, .inl (iN (va_up ma nr k0))))) (h + 3) (.inl (ca 0, 17, .inl (iN (va_up mw nr k1))))) (h + 4) (.inl (ca 0, 17, .inl (iN (va_up mp nr k2))))) (h + 5) (.inl (ca 0, 51, .inl (iN (va_up (va_up (va_up ml ((nr * 3) + 0) x1v_28) ((nr * 3) + 1) x2v_29) ((nr * 3) + 2) x3v_30))))) (h + 6) (.inl (ca 0, 51, .inl (iN (va_up (va_up mh ((nr * 3) + 0) y1v_31) ((nr * 3) + 1) y2v_32))))) (h + 6) (.inl (ca 0, 51, .inl (iN (va_up (va_up (va_up mh ((nr * 3) + 0) y1v_31) ((nr * 3) + 1) y2v_32) ((nr * 3) + 2) y3v_33)))) = gm_up (gm_up (gm_up (gm_up (gm_up M_12 (h + 2) (.inl (ca 0, 17, .inl (iN (va_up ma nr k0))))) (h + 3) (.inl (ca 0, 17, .inl (iN (va_up mw nr k1))))) (h + 4) (.inl (ca 0, 17, .inl (iN (va_up mp nr k2))))) (h + 5) (.inl (ca 0, 51, .inl (iN (va_up (va_up (va_up ml ((nr * 3) + 0) x1v_28) ((nr * 3) + 1) x2v_29) ((nr * 3) + 2) x3v_30))))) (h + 6) (.inl (ca 0, 51, .inl (iN (va_up (va_up (va_up mh ((nr * 3) + 0) y1v_31) ((nr * 3) + 1) y2v_32) ((nr * 3) + 2) y3v_33)))) := gm_up_up _ _ _ _
                  have hP := Eq.mp (congrArg (fun Z => gm_P D cls A N Z H) he_155) hP
                  have h_156 := (congrFun he_155 _).symm.trans (gm_pass (k := (h + 6)) (y := .inl (ca 0, 51, .inl (iN (va_up (va_up (va_up mh ((nr * 3) + 0) y1v_31) ((nr * 3) + 1) y2v_32) ((nr * 3) + 2) y3v_33)))) h_146 (gm_ne h_146 h_153 (fun h => by simp at h)))
                  have h_157 := (congrFun he_155 _).symm.trans (gm_pass (k := (h + 6)) (y := .inl (ca 0, 51, .inl (iN (va_up (va_up (va_up mh ((nr * 3) + 0) y1v_31) ((nr * 3) + 1) y2v_32) ((nr * 3) + 2) y3v_33)))) h_147 (gm_ne h_147 h_153 (fun h => by cases h)))
                  have h_158 := (congrFun he_155 _).symm.trans (gm_pass (k := (h + 6)) (y := .inl (ca 0, 51, .inl (iN (va_up (va_up (va_up mh ((nr * 3) + 0) y1v_31) ((nr * 3) + 1) y2v_32) ((nr * 3) + 2) y3v_33)))) h_148 (gm_ne h_148 h_153 (fun h => by simp at h)))
                  have h_159 := (congrFun he_155 _).symm.trans (gm_pass (k := (h + 6)) (y := .inl (ca 0, 51, .inl (iN (va_up (va_up (va_up mh ((nr * 3) + 0) y1v_31) ((nr * 3) + 1) y2v_32) ((nr * 3) + 2) y3v_33)))) h_149 (gm_ne h_149 h_153 (fun h => by simp at h)))
                  have h_160 := (congrFun he_155 _).symm.trans (gm_pass (k := (h + 6)) (y := .inl (ca 0, 51, .inl (iN (va_up (va_up (va_up mh ((nr * 3) + 0) y1v_31) ((nr * 3) + 1) y2v_32) ((nr * 3) + 2) y3v_33)))) h_150 (gm_ne h_150 h_153 (fun h => by simp at h)))
                  have h_161 := (congrFun he_155 _).symm.trans (gm_pass (k := (h + 6)) (y := .inl (ca 0, 51, .inl (iN (va_up (va_up (va_up mh ((nr * 3) + 0) y1v_31) ((nr * 3) + 1) y2v_32) ((nr * 3) + 2) y3v_33)))) h_151 (gm_ne h_151 h_153 (fun h => by simp at h)))
                  have h_162 := (congrFun he_155 _).symm.trans (gm_pass (k := (h + 6)) (y := .inl (ca 0, 51, .inl (iN (va_up (va_up (va_up mh ((nr * 3) + 0) y1v_31) ((nr * 3) + 1) y2v_32) ((nr * 3) + 2) y3v_33)))) h_152 (gm_ne h_152 h_153 (fun h => by simp at h)))
                  have h_163 := (congrFun he_155 _).symm.trans (gm_pass (k := (h + 6)) (y := .inl (ca 0, 51, .inl (iN (va_up (va_up (va_up mh ((nr * 3) + 0) y1v_31) ((nr * 3) + 1) y2v_32) ((nr * 3) + 2) y3v_33)))) h_154 (by omega))
                  have h_164 := (congrFun he_155 _).symm.trans (gm_up_self (gm_up (gm_up (gm_up (gm_up (gm_up M_12 (h + 2) (.inl (ca 0, 17, .inl (iN (va_up ma nr k0))))) (h + 3) (.inl (ca 0, 17, .inl (iN (va_up mw nr k1))))) (h + 4) (.inl (ca 0, 17, .inl (iN (va_up mp nr k2))))) (h + 5) (.inl (ca 0, 51, .inl (iN (va_up (va_up (va_up ml ((nr * 3) + 0) x1v_28) ((nr * 3) + 1) x2v_29) ((nr * 3) + 2) x3v_30))))) (h + 6) (.inl (ca 0, 51, .inl (iN (va_up (va_up mh ((nr * 3) + 0) y1v_31) ((nr * 3) + 1) y2v_32))))) (h + 6) (.inl (ca 0, 51, .inl (iN (va_up (va_up (va_up mh ((nr * 3) + 0) y1v_31) ((nr * 3) + 1) y2v_32) ((nr * 3) + 2) y3v_33)))))
                  refine lv_iinc (v := nI 3) (lv' := [(2, .int (nI 3)), (0, .ref h)]) hx hb d_Mo_install_259 hl (k := 0) rfl (by decide) (by decide) rfl (fun ls hl => ?_)
                  refine lv_goto (tgt := 216) hx hb d_Mo_install_262 (by decide) ?_
                  refine lv_iload_n hx hb d_Mo_install_216 rfl (lv_at hl 0 rfl) ?_
                  refine lv_iconst (v := nI 3) hx hb d_Mo_install_217 (by decide) ?_
                  refine lv_icmp_ge (tgt := 265) hx hb d_Mo_install_218 (by decide) (fun _ => ?_) (fun q => absurd q (by decide))
                  refine lv_aload_n hx hb d_Mo_install_265 rfl (lv_at hl 1 rfl) ?_
                  refine lv_dup hx hb d_Mo_install_266 rfl ?_
                  refine gm_get (C := R_Mo) (T := F_Mo) (n := 44) hx hb htl i_Mo hown hK hP h_157 rfl 8 (by decide) (htl _ k_751) (fun _ h => h) rfl d_Mo_install_267 ?_
                  refine lv_iconst (v := nI 1) hx hb d_Mo_install_270 (by decide) ?_
                  refine lv_iadd hx hb d_Mo_install_271 ?_
                  rw [show (nI nr) + (nI 1) = nI (nr + 1) from nI_add _ _]
                  refine gm_put (C := R_Mo) (T := F_Mo) (n := 44) (ty := .int) hx hb htl i_Mo t_Mo tk_Mo n_Mo hown hK hP hS h_157 rfl 8 (by decide) (htl _ k_751) (fun _ h => h) rfl (tk_Mo 8 (by decide)) rfl rfl (Nat.le_of_ble_eq_true rfl) d_Mo_install_272 (fun H locs hP hS => ?_)
                  have hP : gm_P D cls A N (gm_up (gm_up (gm_up (gm_up (gm_up (gm_up M_12 (h + 2) (.inl (ca 0, 17, .inl (iN (va_up ma nr k0))))) (h + 3) (.inl (ca 0, 17, .inl (iN (va_up mw nr k1))))) (h + 4) (.inl (ca 0, 17, .inl (iN (va_up mp nr k2))))) (h + 5) (.inl (ca 0, 51, .inl (iN (va_up (va_up (va_up ml ((nr * 3) + 0) x1v_28) ((nr * 3) + 1) x2v_29) ((nr * 3) + 2) x3v_30))))) (h + 6) (.inl (ca 0, 51, .inl (iN (va_up (va_up (va_up mh ((nr * 3) + 0) y1v_31) ((nr * 3) + 1) y2v_32) ((nr * 3) + 2) y3v_33))))) h (moO h (nI 0) bp (nI (nr + 1)) (nI 1) (nI tl) (nI ne) (nI nf) (nI na) (nI an) (nI tm) (nI cn) (nI cs) (nI bd) (nI lt) (nI nt) fx fy)) H := hP
                  have h_165 := gm_pass (k := h) (y := moO h (nI 0) bp (nI (nr + 1)) (nI 1) (nI tl) (nI ne) (nI nf) (nI na) (nI an) (nI tm) (nI cn) (nI cs) (nI bd) (nI lt) (nI nt) fx fy) h_156 (gm_ne h_156 h_157 (fun h => by cases h))
                  have h_166 := gm_pass (k := h) (y := moO h (nI 0) bp (nI (nr + 1)) (nI 1) (nI tl) (nI ne) (nI nf) (nI na) (nI an) (nI tm) (nI cn) (nI cs) (nI bd) (nI lt) (nI nt) fx fy) h_158 (gm_ne h_158 h_157 (fun h => by cases h))
                  have h_167 := gm_pass (k := h) (y := moO h (nI 0) bp (nI (nr + 1)) (nI 1) (nI tl) (nI ne) (nI nf) (nI na) (nI an) (nI tm) (nI cn) (nI cs) (nI bd) (nI lt) (nI nt) fx fy) h_159 (gm_ne h_159 h_157 (fun h => by cases h))
                  have h_168 := gm_pass (k := h) (y := moO h (nI 0) bp (nI (nr + 1)) (nI 1) (nI tl) (nI ne) (nI nf) (nI na) (nI an) (nI tm) (nI cn) (nI cs) (nI bd) (nI lt) (nI nt) fx fy) h_160 (gm_ne h_160 h_157 (fun h => by cases h))
                  have h_169 := gm_pass (k := h) (y := moO h (nI 0) bp (nI (nr + 1)) (nI 1) (nI tl) (nI ne) (nI nf) (nI na) (nI an) (nI tm) (nI cn) (nI cs) (nI bd) (nI lt) (nI nt) fx fy) h_161 (gm_ne h_161 h_157 (fun h => by cases h))
                  have h_170 := gm_pass (k := h) (y := moO h (nI 0) bp (nI (nr + 1)) (nI 1) (nI tl) (nI ne) (nI nf) (nI na) (nI an) (nI tm) (nI cn) (nI cs) (nI bd) (nI lt) (nI nt) fx fy) h_162 (gm_ne h_162 h_157 (fun h => by cases h))
                  have h_171 := gm_pass (k := h) (y := moO h (nI 0) bp (nI (nr + 1)) (nI 1) (nI tl) (nI ne) (nI nf) (nI na) (nI an) (nI tm) (nI cn) (nI cs) (nI bd) (nI lt) (nI nt) fx fy) h_163 (gm_ne h_163 h_157 (fun h => by cases h))
                  have h_172 := gm_pass (k := h) (y := moO h (nI 0) bp (nI (nr + 1)) (nI 1) (nI tl) (nI ne) (nI nf) (nI na) (nI an) (nI tm) (nI cn) (nI cs) (nI bd) (nI lt) (nI nt) fx fy) h_164 (gm_ne h_164 h_157 (fun h => by cases h))
                  have h_173 := gm_up_self (gm_up (gm_up (gm_up (gm_up (gm_up M_12 (h + 2) (.inl (ca 0, 17, .inl (iN (va_up ma nr k0))))) (h + 3) (.inl (ca 0, 17, .inl (iN (va_up mw nr k1))))) (h + 4) (.inl (ca 0, 17, .inl (iN (va_up mp nr k2))))) (h + 5) (.inl (ca 0, 51, .inl (iN (va_up (va_up (va_up ml ((nr * 3) + 0) x1v_28) ((nr * 3) + 1) x2v_29) ((nr * 3) + 2) x3v_30))))) (h + 6) (.inl (ca 0, 51, .inl (iN (va_up (va_up (va_up mh ((nr * 3) + 0) y1v_31) ((nr * 3) + 1) y2v_32) ((nr * 3) + 2) y3v_33))))) h (moO h (nI 0) bp (nI (nr + 1)) (nI 1) (nI tl) (nI ne) (nI nf) (nI na) (nI an) (nI tm) (nI cn) (nI cs) (nI bd) (nI lt) (nI nt) fx fy)
                  refine lv_aload_n hx hb d_Mo_install_275 rfl (lv_at hl 1 rfl) ?_
                  refine gm_get (C := R_Mo) (T := F_Mo) (n := 44) hx hb htl i_Mo hown hK hP h_173 rfl 8 (by decide) (htl _ k_751) (fun _ h => h) rfl d_Mo_install_276 ?_
                  rw [← hQ]
                  exact gc_iret hx hb hr hlk hP hS d_Mo_install_279 ⟨rfl, Or.inr (Or.inr (Or.inr ⟨k0, k1, k2, x1v_28, x2v_29, x3v_30, y1v_31, y2v_32, y3v_33, fr1v_34, to1v_35, by omega, (fun j p q => hgo j p (by omega)), c_36, ⟨hj_118, hj_158, hj_213⟩, by omega, h_173, h_166, h_167, h_168, h_169, h_170, h_171, h_172, (fun z q0 q1 q2 q3 q4 q5 q6 q7 => (gm_up_ne _ _ q0).trans ((gm_up_ne _ _ q7).trans ((gm_up_ne _ _ q6).trans ((gm_up_ne _ _ q5).trans ((gm_up_ne _ _ q4).trans ((gm_up_ne _ _ q3).trans ((hfr_42 z q0 q1 q2).trans ((hfrv z q0 q1 q2).trans (rfl))))))))), rfl⟩))⟩
                · skip
                  refine lv_aload_n hx hb d_Mo_install_159 rfl (lv_at hl 0 rfl) ?_
                  refine gm_get (C := R_Mo) (T := F_Mo) (n := 44) hx hb htl i_Mo hown hK hP h_93 rfl 5 (by decide) (htl _ k_748) (fun _ h => h) rfl d_Mo_install_160 ?_
                  refine lv_aload_n hx hb d_Mo_install_163 rfl (lv_at hl 0 rfl) ?_
                  refine gm_get (C := R_Mo) (T := F_Mo) (n := 44) hx hb htl i_Mo hown hK hP h_93 rfl 8 (by decide) (htl _ k_751) (fun _ h => h) rfl d_Mo_install_164 ?_
                  refine lv_aload_n hx hb d_Mo_install_167 rfl (lv_at hl 0 rfl) ?_
                  refine gm_get (C := R_Mo) (T := F_Mo) (n := 44) hx hb htl i_Mo hown hK hP h_93 rfl 0 (by decide) (htl _ k_743) (fun _ h => h) rfl d_Mo_install_168 ?_
                  refine lv_iconst (v := nI 2) hx hb d_Mo_install_171 (by decide) ?_
                  refine gz_iald hx hb hK hP 0 h_89 rfl (by omega) (by omega) d_Mo_install_172 ?_
                  rw [show lm 2 = t.getD 2 32 from txM_32 hlm (by omega)]
                  have b_174 := hc8 2 (by omega)
                  refine lv_bipush (v := nI 116) hx hb d_Mo_install_173 (by decide) ?_
                  refine ln_ne (tgt := 182) hx hb d_Mo_install_175 (by decide) (by omega) (by omega) (fun c_175 => ?_) (fun c_175 => ?_)
                  · skip
                    refine lv_aload_n hx hb d_Mo_install_182 rfl (lv_at hl 0 rfl) ?_
                    refine gm_get (C := R_Mo) (T := F_Mo) (n := 44) hx hb htl i_Mo hown hK hP h_93 rfl 0 (by decide) (htl _ k_743) (fun _ h => h) rfl d_Mo_install_183 ?_
                    refine lv_iconst (v := nI 2) hx hb d_Mo_install_186 (by decide) ?_
                    refine gz_iald hx hb hK hP 0 h_89 rfl (by omega) (by omega) d_Mo_install_187 ?_
                    rw [show lm 2 = t.getD 2 32 from txM_32 hlm (by omega)]
                    have b_176 := hc8 2 (by omega)
                    refine lv_bipush (v := nI 117) hx hb d_Mo_install_188 (by decide) ?_
                    refine ln_ne (tgt := 197) hx hb d_Mo_install_190 (by decide) (by omega) (by omega) (fun c_177 => ?_) (fun c_177 => ?_)
                    · skip
                      refine lv_aload_n hx hb d_Mo_install_197 rfl (lv_at hl 0 rfl) ?_
                      refine gm_get (C := R_Mo) (T := F_Mo) (n := 44) hx hb htl i_Mo hown hK hP h_93 rfl 0 (by decide) (htl _ k_743) (fun _ h => h) rfl d_Mo_install_198 ?_
                      refine lv_iconst (v := nI 2) hx hb d_Mo_install_201 (by decide) ?_
                      refine gz_iald hx hb hK hP 0 h_89 rfl (by omega) (by omega) d_Mo_install_202 ?_
                      rw [show lm 2 = t.getD 2 32 from txM_32 hlm (by omega)]
                      have b_178 := hc8 2 (by omega)
                      refine lv_bipush (v := nI 101) hx hb d_Mo_install_203 (by decide) ?_
                      refine ln_ne (tgt := 212) hx hb d_Mo_install_205 (by decide) (by omega) (by omega) (fun c_179 => ?_) (fun c_179 => ?_)
                      · skip
                        refine lv_iconst (v := nI 3) hx hb d_Mo_install_212 (by decide) ?_
                        exact jn_213 3 ls (lv_sub hl [0] rfl) (by rw [show t.getD 2 32 = 42 from (by omega)]; decide)
                      · skip
                        refine lv_iconst (v := nI 2) hx hb d_Mo_install_208 (by decide) ?_
                        refine lv_goto (tgt := 213) hx hb d_Mo_install_209 (by decide) ?_
                        exact jn_213 2 ls (lv_sub hl [0] rfl) (by rw [show t.getD 2 32 = 101 from (by omega)]; decide)
                    · skip
                      refine lv_iconst (v := nI 1) hx hb d_Mo_install_193 (by decide) ?_
                      refine lv_goto (tgt := 213) hx hb d_Mo_install_194 (by decide) ?_
                      exact jn_213 1 ls (lv_sub hl [0] rfl) (by rw [show t.getD 2 32 = 117 from (by omega)]; decide)
                  · skip
                    refine lv_iconst (v := nI 0) hx hb d_Mo_install_178 (by decide) ?_
                    refine lv_goto (tgt := 213) hx hb d_Mo_install_179 (by decide) ?_
                    exact jn_213 0 ls (lv_sub hl [0] rfl) (by rw [show t.getD 2 32 = 116 from (by omega)]; decide)
              · skip
                refine lv_aload_n hx hb d_Mo_install_119 rfl (lv_at hl 0 rfl) ?_
                refine gm_get (C := R_Mo) (T := F_Mo) (n := 44) hx hb htl i_Mo hown hK hP h_85 rfl 4 (by decide) (htl _ k_747) (fun _ h => h) rfl d_Mo_install_120 ?_
                refine lv_aload_n hx hb d_Mo_install_123 rfl (lv_at hl 0 rfl) ?_
                refine gm_get (C := R_Mo) (T := F_Mo) (n := 44) hx hb htl i_Mo hown hK hP h_85 rfl 8 (by decide) (htl _ k_751) (fun _ h => h) rfl d_Mo_install_124 ?_
                refine lv_aload_n hx hb d_Mo_install_127 rfl (lv_at hl 0 rfl) ?_
                refine gm_get (C := R_Mo) (T := F_Mo) (n := 44) hx hb htl i_Mo hown hK hP h_85 rfl 0 (by decide) (htl _ k_743) (fun _ h => h) rfl d_Mo_install_128 ?_
                refine lv_iconst (v := nI 1) hx hb d_Mo_install_131 (by decide) ?_
                refine gz_iald hx hb hK hP 0 h_80 rfl (by omega) (by omega) d_Mo_install_132 ?_
                rw [show lm 1 = t.getD 1 32 from txM_32 hlm (by omega)]
                have b_180 := hc8 1 (by omega)
                refine lv_bipush (v := nI 105) hx hb d_Mo_install_133 (by decide) ?_
                refine ln_ne (tgt := 142) hx hb d_Mo_install_135 (by decide) (by omega) (by omega) (fun c_181 => ?_) (fun c_181 => ?_)
                · skip
                  refine lv_aload_n hx hb d_Mo_install_142 rfl (lv_at hl 0 rfl) ?_
                  refine gm_get (C := R_Mo) (T := F_Mo) (n := 44) hx hb htl i_Mo hown hK hP h_85 rfl 0 (by decide) (htl _ k_743) (fun _ h => h) rfl d_Mo_install_143 ?_
                  refine lv_iconst (v := nI 1) hx hb d_Mo_install_146 (by decide) ?_
                  refine gz_iald hx hb hK hP 0 h_80 rfl (by omega) (by omega) d_Mo_install_147 ?_
                  rw [show lm 1 = t.getD 1 32 from txM_32 hlm (by omega)]
                  have b_182 := hc8 1 (by omega)
                  refine lv_bipush (v := nI 111) hx hb d_Mo_install_148 (by decide) ?_
                  refine ln_ne (tgt := 157) hx hb d_Mo_install_150 (by decide) (by omega) (by omega) (fun c_183 => ?_) (fun c_183 => ?_)
                  · skip
                    refine lv_iconst (v := nI 2) hx hb d_Mo_install_157 (by decide) ?_
                    exact jn_158 2 ls (lv_sub hl [0] rfl) (by rw [show t.getD 1 32 = 98 from (by omega)]; decide)
                  · skip
                    refine lv_iconst (v := nI 1) hx hb d_Mo_install_153 (by decide) ?_
                    refine lv_goto (tgt := 158) hx hb d_Mo_install_154 (by decide) ?_
                    exact jn_158 1 ls (lv_sub hl [0] rfl) (by rw [show t.getD 1 32 = 111 from (by omega)]; decide)
                · skip
                  refine lv_iconst (v := nI 0) hx hb d_Mo_install_138 (by decide) ?_
                  refine lv_goto (tgt := 158) hx hb d_Mo_install_139 (by decide) ?_
                  exact jn_158 0 ls (lv_sub hl [0] rfl) (by rw [show t.getD 1 32 = 105 from (by omega)]; decide)
            · skip
              refine lv_aload_n hx hb d_Mo_install_79 rfl (lv_at hl 0 rfl) ?_
              refine gm_get (C := R_Mo) (T := F_Mo) (n := 44) hx hb htl i_Mo hown hK hP h_39 rfl 3 (by decide) (htl _ k_746) (fun _ h => h) rfl d_Mo_install_80 ?_
              refine lv_aload_n hx hb d_Mo_install_83 rfl (lv_at hl 0 rfl) ?_
              refine gm_get (C := R_Mo) (T := F_Mo) (n := 44) hx hb htl i_Mo hown hK hP h_39 rfl 8 (by decide) (htl _ k_751) (fun _ h => h) rfl d_Mo_install_84 ?_
              refine lv_aload_n hx hb d_Mo_install_87 rfl (lv_at hl 0 rfl) ?_
              refine gm_get (C := R_Mo) (T := F_Mo) (n := 44) hx hb htl i_Mo hown hK hP h_39 rfl 0 (by decide) (htl _ k_743) (fun _ h => h) rfl d_Mo_install_88 ?_
              refine lv_iconst (v := nI 0) hx hb d_Mo_install_91 (by decide) ?_
              refine gz_iald hx hb hK hP 0 h_73 rfl (by omega) (by omega) d_Mo_install_92 ?_
              rw [show lm 0 = t.getD 0 32 from txM_32 hlm (by omega)]
              have b_184 := hc8 0 (by omega)
              refine lv_bipush (v := nI 80) hx hb d_Mo_install_93 (by decide) ?_
              refine ln_ne (tgt := 102) hx hb d_Mo_install_95 (by decide) (by omega) (by omega) (fun c_185 => ?_) (fun c_185 => ?_)
              · skip
                refine lv_aload_n hx hb d_Mo_install_102 rfl (lv_at hl 0 rfl) ?_
                refine gm_get (C := R_Mo) (T := F_Mo) (n := 44) hx hb htl i_Mo hown hK hP h_39 rfl 0 (by decide) (htl _ k_743) (fun _ h => h) rfl d_Mo_install_103 ?_
                refine lv_iconst (v := nI 0) hx hb d_Mo_install_106 (by decide) ?_
                refine gz_iald hx hb hK hP 0 h_73 rfl (by omega) (by omega) d_Mo_install_107 ?_
                rw [show lm 0 = t.getD 0 32 from txM_32 hlm (by omega)]
                have b_186 := hc8 0 (by omega)
                refine lv_bipush (v := nI 68) hx hb d_Mo_install_108 (by decide) ?_
                refine ln_ne (tgt := 117) hx hb d_Mo_install_110 (by decide) (by omega) (by omega) (fun c_187 => ?_) (fun c_187 => ?_)
                · skip
                  refine lv_iconst (v := nI 2) hx hb d_Mo_install_117 (by decide) ?_
                  exact jn_118 2 ls (lv_sub hl [0] rfl) (by rw [show t.getD 0 32 = 83 from (by omega)]; decide)
                · skip
                  refine lv_iconst (v := nI 1) hx hb d_Mo_install_113 (by decide) ?_
                  refine lv_goto (tgt := 118) hx hb d_Mo_install_114 (by decide) ?_
                  exact jn_118 1 ls (lv_sub hl [0] rfl) (by rw [show t.getD 0 32 = 68 from (by omega)]; decide)
              · skip
                refine lv_iconst (v := nI 0) hx hb d_Mo_install_98 (by decide) ?_
                refine lv_goto (tgt := 118) hx hb d_Mo_install_99 (by decide) ?_
                exact jn_118 0 ls (lv_sub hl [0] rfl) (by rw [show t.getD 0 32 = 80 from (by omega)]; decide)
        · skip
          refine lv_aload_n hx hb d_Mo_install_29 rfl (lv_at hl 0 rfl) ?_
          refine lv_iload_n hx hb d_Mo_install_30 rfl (lv_at hl 2 rfl) ?_
          refine gc_V (q := (R_Mo, F_Mo, 44)) (n := 1) [.int (nI k)] [] hx hb hml hown hts hK hN hX hP hS (c_Mo_begins (t := t) ehv m1v m7v m8v hlm (by omega) hc8 (by omega)) rfl ehv k_884 k_886 ks_Mo_begins k_10 k_887 (by decide +kernel) ⟨by decide, by decide⟩ rfl hl.1 rfl (Nat.le_of_ble_eq_true rfl) d_Mo_install_31 ⟨by decide, by decide⟩ (fun r N1 M_188 H locs hw hP hS => ?_)
          obtain ⟨rfl, hw⟩ := hw
          rcases hw with ⟨fr1v_189, to1v_190, wh1v_191, c_192, h_193, h_194, h_195, hfr_196, rfl⟩ | ⟨fr1v_197, to1v_198, c_199, h_200, h_201, h_202, hfr_203, rfl⟩ | ⟨x1v_204, x2v_205, x3v_206, y1v_207, y2v_208, y3v_209, fr1v_210, to1v_211, c_212, c_213, c_214, h_215, h_216, h_217, hfr_218, rfl⟩
          · skip
            have h_219 := (hfr_196 _ (gm_ne m1v ehv (fun h => by cases h)) (gm_ne m1v m7v (fun h => by simp at h)) (gm_ne m1v m8v (fun h => by simp at h))).trans m1v
            have h_220 := (hfr_196 _ (gm_ne m2v ehv (fun h => by cases h)) (gm_ne m2v m7v (fun h => by simp at h)) (gm_ne m2v m8v (fun h => by simp at h))).trans m2v
            have h_221 := (hfr_196 _ (gm_ne m3v ehv (fun h => by cases h)) (gm_ne m3v m7v (fun h => by simp at h)) (gm_ne m3v m8v (fun h => by simp at h))).trans m3v
            have h_222 := (hfr_196 _ (gm_ne m4v ehv (fun h => by cases h)) (gm_ne m4v m7v (fun h => by simp at h)) (gm_ne m4v m8v (fun h => by simp at h))).trans m4v
            have h_223 := (hfr_196 _ (gm_ne m5v ehv (fun h => by cases h)) (gm_ne m5v m7v (fun h => by simp at h)) (gm_ne m5v m8v (fun h => by simp at h))).trans m5v
            have h_224 := (hfr_196 _ (gm_ne m6v ehv (fun h => by cases h)) (gm_ne m6v m7v (fun h => by simp at h)) (gm_ne m6v m8v (fun h => by simp at h))).trans m6v
            refine W.eq (g2 := F0 m 34 ls [.int (nI 0)]) rfl ?_
            refine lv_if_eq (tgt := 40) hx hb d_Mo_install_34 (by decide) (fun _ => ?_) (fun q => absurd q (by decide))
            refine lv_aload_n hx hb d_Mo_install_40 rfl (lv_at hl 0 rfl) ?_
            refine lv_iload_n hx hb d_Mo_install_41 rfl (lv_at hl 2 rfl) ?_
            refine lv_iconst (v := nI 1) hx hb d_Mo_install_42 (by decide) ?_
            refine lv_isub hx hb d_Mo_install_43 ?_
            rw [show (nI k) - (nI 1) = nI (k - 1) from pk_sub (by omega)]
            refine gm_put (C := R_Mo) (T := F_Mo) (n := 44) (ty := .int) hx hb htl i_Mo t_Mo tk_Mo n_Mo hown hK hP hS h_193 rfl 2 (by decide) (htl _ k_745) (fun _ h => h) rfl (tk_Mo 2 (by decide)) rfl rfl (Nat.le_of_ble_eq_true rfl) d_Mo_install_44 (fun H locs hP hS => ?_)
            have hP : gm_P D cls A N (gm_up M_188 h (moO h (nI 0) (nI (k - 1)) (nI nr) (nI wh1v_191) (nI tl) (nI ne) (nI nf) (nI na) (nI an) (nI tm) (nI cn) (nI cs) (nI bd) (nI lt) (nI nt) fx fy)) H := hP
            have h_225 := gm_pass (k := h) (y := moO h (nI 0) (nI (k - 1)) (nI nr) (nI wh1v_191) (nI tl) (nI ne) (nI nf) (nI na) (nI an) (nI tm) (nI cn) (nI cs) (nI bd) (nI lt) (nI nt) fx fy) h_219 (gm_ne h_219 h_193 (fun h => by cases h))
            have h_226 := gm_pass (k := h) (y := moO h (nI 0) (nI (k - 1)) (nI nr) (nI wh1v_191) (nI tl) (nI ne) (nI nf) (nI na) (nI an) (nI tm) (nI cn) (nI cs) (nI bd) (nI lt) (nI nt) fx fy) h_220 (gm_ne h_220 h_193 (fun h => by cases h))
            have h_227 := gm_pass (k := h) (y := moO h (nI 0) (nI (k - 1)) (nI nr) (nI wh1v_191) (nI tl) (nI ne) (nI nf) (nI na) (nI an) (nI tm) (nI cn) (nI cs) (nI bd) (nI lt) (nI nt) fx fy) h_221 (gm_ne h_221 h_193 (fun h => by cases h))
            have h_228 := gm_pass (k := h) (y := moO h (nI 0) (nI (k - 1)) (nI nr) (nI wh1v_191) (nI tl) (nI ne) (nI nf) (nI na) (nI an) (nI tm) (nI cn) (nI cs) (nI bd) (nI lt) (nI nt) fx fy) h_222 (gm_ne h_222 h_193 (fun h => by cases h))
            have h_229 := gm_pass (k := h) (y := moO h (nI 0) (nI (k - 1)) (nI nr) (nI wh1v_191) (nI tl) (nI ne) (nI nf) (nI na) (nI an) (nI tm) (nI cn) (nI cs) (nI bd) (nI lt) (nI nt) fx fy) h_223 (gm_ne h_223 h_193 (fun h => by cases h))
            have h_230 := gm_pass (k := h) (y := moO h (nI 0) (nI (k - 1)) (nI nr) (nI wh1v_191) (nI tl) (nI ne) (nI nf) (nI na) (nI an) (nI tm) (nI cn) (nI cs) (nI bd) (nI lt) (nI nt) fx fy) h_224 (gm_ne h_224 h_193 (fun h => by cases h))
            have h_231 := gm_pass (k := h) (y := moO h (nI 0) (nI (k - 1)) (nI nr) (nI wh1v_191) (nI tl) (nI ne) (nI nf) (nI na) (nI an) (nI tm) (nI cn) (nI cs) (nI bd) (nI lt) (nI nt) fx fy) h_194 (gm_ne h_194 h_193 (fun h => by cases h))
            have h_232 := gm_pass (k := h) (y := moO h (nI 0) (nI (k - 1)) (nI nr) (nI wh1v_191) (nI tl) (nI ne) (nI nf) (nI na) (nI an) (nI tm) (nI cn) (nI cs) (nI bd) (nI lt) (nI nt) fx fy) h_195 (gm_ne h_195 h_193 (fun h => by cases h))
            have h_233 := gm_up_self M_188 h (moO h (nI 0) (nI (k - 1)) (nI nr) (nI wh1v_191) (nI tl) (nI ne) (nI nf) (nI na) (nI an) (nI tm) (nI cn) (nI cs) (nI bd) (nI lt) (nI nt) fx fy)
            refine lv_bipush (v := (-2)) hx hb d_Mo_install_47 (by decide) ?_
            rw [← hQ]
            exact gc_iret hx hb hr hlk hP hS d_Mo_install_49 ⟨rfl, Or.inr (Or.inl ⟨k, fr1v_189, to1v_190, wh1v_191, by omega, by omega, c_192, hgo, h_233, h_231, h_232, (fun z q0 q1 q2 => (gm_up_ne _ _ q0).trans ((hfr_196 z q0 q1 q2).trans ((hfrv z q0 q1 q2).trans (rfl)))), rfl⟩)⟩
          · skip
            have h_234 := (hfr_203 _ (gm_ne m1v ehv (fun h => by cases h)) (gm_ne m1v m7v (fun h => by simp at h)) (gm_ne m1v m8v (fun h => by simp at h))).trans m1v
            have h_235 := (hfr_203 _ (gm_ne m2v ehv (fun h => by cases h)) (gm_ne m2v m7v (fun h => by simp at h)) (gm_ne m2v m8v (fun h => by simp at h))).trans m2v
            have h_236 := (hfr_203 _ (gm_ne m3v ehv (fun h => by cases h)) (gm_ne m3v m7v (fun h => by simp at h)) (gm_ne m3v m8v (fun h => by simp at h))).trans m3v
            have h_237 := (hfr_203 _ (gm_ne m4v ehv (fun h => by cases h)) (gm_ne m4v m7v (fun h => by simp at h)) (gm_ne m4v m8v (fun h => by simp at h))).trans m4v
            have h_238 := (hfr_203 _ (gm_ne m5v ehv (fun h => by cases h)) (gm_ne m5v m7v (fun h => by simp at h)) (gm_ne m5v m8v (fun h => by simp at h))).trans m5v
            have h_239 := (hfr_203 _ (gm_ne m6v ehv (fun h => by cases h)) (gm_ne m6v m7v (fun h => by simp at h)) (gm_ne m6v m8v (fun h => by simp at h))).trans m6v
            refine W.eq (g2 := F0 m 34 ls [.int (nI 1)]) rfl ?_
            refine lv_if_eq (tgt := 40) hx hb d_Mo_install_34 (by decide) (fun q => absurd q (by decide)) (fun _ => ?_)
            refine lv_goto (tgt := 50) hx hb d_Mo_install_37 (by decide) ?_
            refine lv_iinc (v := nI (k + 1)) (lv' := [(2, .int (nI (k + 1))), (0, .ref h), (1, .int (nI t.length))]) hx hb d_Mo_install_50 hl (k := 2) rfl (nI_1 k) (by decide) rfl (fun ls hl => ?_)
            refine lv_goto (tgt := 24) hx hb d_Mo_install_53 (by decide) ?_
            exact ih_24 (k + 1) 0 fr1v_197 to1v_198 _ ls _ _ h_200 h_234 h_235 h_236 h_237 h_238 h_239 h_201 h_202 (by omega) (fun j p q => by by_cases z : j = k; subst z; rw [c_199]; exact Option.some_ne_none _; exact hgo j p (by omega)) (fun z q0 q1 q2 => (hfr_203 z q0 q1 q2).trans ((hfrv z q0 q1 q2).trans (rfl))) (by omega) hP hS (lv_sub hl [1, 2, 0] rfl)
          · skip
            have h_240 := (hfr_218 _ (gm_ne m1v ehv (fun h => by cases h)) (gm_ne m1v m7v (fun h => by simp at h)) (gm_ne m1v m8v (fun h => by simp at h))).trans m1v
            have h_241 := (hfr_218 _ (gm_ne m2v ehv (fun h => by cases h)) (gm_ne m2v m7v (fun h => by simp at h)) (gm_ne m2v m8v (fun h => by simp at h))).trans m2v
            have h_242 := (hfr_218 _ (gm_ne m3v ehv (fun h => by cases h)) (gm_ne m3v m7v (fun h => by simp at h)) (gm_ne m3v m8v (fun h => by simp at h))).trans m3v
            have h_243 := (hfr_218 _ (gm_ne m4v ehv (fun h => by cases h)) (gm_ne m4v m7v (fun h => by simp at h)) (gm_ne m4v m8v (fun h => by simp at h))).trans m4v
            have h_244 := (hfr_218 _ (gm_ne m5v ehv (fun h => by cases h)) (gm_ne m5v m7v (fun h => by simp at h)) (gm_ne m5v m8v (fun h => by simp at h))).trans m5v
            have h_245 := (hfr_218 _ (gm_ne m6v ehv (fun h => by cases h)) (gm_ne m6v m7v (fun h => by simp at h)) (gm_ne m6v m8v (fun h => by simp at h))).trans m6v
            refine W.eq (g2 := F0 m 34 ls [.int (nI 1)]) rfl ?_
            have hlt_246 := bgF_let c_212
            obtain ⟨hl3, hl4, hl5, hl6⟩ := hlt_246
            refine lv_if_eq (tgt := 40) hx hb d_Mo_install_34 (by decide) (fun q => absurd q (by decide)) (fun _ => ?_)
            refine lv_goto (tgt := 50) hx hb d_Mo_install_37 (by decide) ?_
            refine lv_iinc (v := nI (k + 1)) (lv' := [(2, .int (nI (k + 1))), (0, .ref h), (1, .int (nI t.length))]) hx hb d_Mo_install_50 hl (k := 2) rfl (nI_1 k) (by decide) rfl (fun ls hl => ?_)
            refine lv_goto (tgt := 24) hx hb d_Mo_install_53 (by decide) ?_
            exact ih_24 (k + 1) 1 fr1v_210 to1v_211 _ ls _ _ h_215 h_240 h_241 h_242 h_243 h_244 h_245 h_216 h_217 (by omega) (fun j p q => by by_cases z : j = k; subst z; rw [c_212]; exact Option.some_ne_none _; exact hgo j p (by omega)) (fun z q0 q1 q2 => (hfr_218 z q0 q1 q2).trans ((hfrv z q0 q1 q2).trans (rfl))) (by omega) hP hS (lv_sub hl [1, 2, 0] rfl)
    exact loop_24 (_ + 1) 1 wh mfr mto _ ls _ locs h_9 h_1 h_2 h_3 h_4 h_5 h_6 h_7 h_8 (by omega) (fun j p q => absurd q (by omega)) (fun z q0 q1 q2 => (gm_up_ne _ _ q0).trans (rfl)) (Nat.lt_succ_self _) hP hS (lv_sub hl [2, 1, 0] rfl)
  · skip
    refine lv_bipush (v := (-3)) hx hb d_Mo_install_19 (by decide) ?_
    rw [← hQ]
    exact gc_iret hx hb hr hlk hP hS d_Mo_install_21 ⟨rfl, Or.inl ⟨by assumption, rfl, rfl⟩⟩
end C35
