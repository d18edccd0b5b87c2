section C41
variable {l : Launch} {D : va_G} {ca : Nat → ClassId} {A : Nat → Prop} {G : gG} {N : Nat} {M : gm_M}

theorem pol_le {ru lw hw : Nat → Nat → Nat} {n d pr s t a : Nat} (hU : okU n ru lw hw) (h : pol ru lw hw n d pr s t a) : a ≤ 2 := by
  rcases h with ⟨k, h1, _, _, rfl⟩ | ⟨_, rfl⟩
  · have := (hU.1 k h1).1; omega
  · omega
set_option maxHeartbeats 4000000 in
set_option maxRecDepth 100000 in
theorem c_Mo_unseal (y1 y2 y4 y5 : Int32) {h le nr tl ne nf na an tm cn cs bd lt nt wh : Nat} {bp fx fy : Int32} {ma : Nat → Nat} {mw : Nat → Nat} {mp : Nat → Nat} {ml : Nat → Nat} {mh : Nat → Nat} {aA : Nat → Nat} {aS : Nat → Nat} {hd : Nat → Nat} {em : Nat → Nat} {ru lw hw : Nat → Nat → Nat} {so ta au : Nat} (eh : M h = some (moO h (nI le) bp (nI nr) (nI wh) (nI tl) (nI ne) (nI nf) (nI na) (nI an) (nI tm) (nI cn) (nI cs) (nI bd) (nI lt) (nI nt) fx fy)) (m2 : M (h + 2) = some (.inl (ca 0, 17, .inl (iN ma)))) (m3 : M (h + 3) = some (.inl (ca 0, 17, .inl (iN mw)))) (m4 : M (h + 4) = some (.inl (ca 0, 17, .inl (iN mp)))) (m5 : M (h + 5) = some (.inl (ca 0, 51, .inl (iN ml)))) (m6 : M (h + 6) = some (.inl (ca 0, 51, .inl (iN mh)))) (m24 : M (h + 24) = some (.inl (ca 0, 512, .inl (iN aA)))) (m25 : M (h + 25) = some (.inl (ca 0, 512, .inl (iN aS)))) (m26 : M (h + 26) = some (.inl (ca 0, 4, .inl (iN hd)))) (m27 : M (h + 27) = some (.inl (ca 0, 4, .inl (iN em)))) (hRU : relU nr ru lw hw ma mw mp ml mh) (hU : okU nr ru lw hw) (hnr : nr ≤ 16) (hhd : hd 0 = so / 256 ∧ hd 1 = so % 256 ∧ hd 2 = ta / 256 ∧ hd 3 = ta % 256) (hso : so < 65536) (hta : ta < 65536) (hacc : ∀ k, k < na → aA k < 600000 ∧ aS k ≤ 9999) (hna : na ≤ 512) (hna1 : na < 512) (hcn : 1 ≤ cn ∧ cn < 600000) (htm : tm < 600000) (hbd : bd < 1000000) (hau : au ≤ 1) : gC l D ca A G y_Mo_unseal (.code y_Mo_unseal b_Mo_unseal 8 (some .int)) ({ frames := 2, cells := 0, slots := 0, locals := 48 }) N M [.ref h, .int y1, .int y2, .int (nI au), .int y4, .int y5] gm_i (fun (r : Int32) (N1 : Nat) (M1 : gm_M) => N = N1 ∧ (((¬ ((∃ k : Nat, k < 9999 ∧ y2 = nI (k + 1)) ∧ inr y4 2 ∧ inr y5 15)) ∧ M = M1 ∧ (-1) = r) ∨ (∃ (sq : Nat) (pr0 : Nat) (f0 : Nat) (r0 : Int32) (em1 : Nat → Nat) (lt1 : Nat) (nt1 : Nat) (an1 : Nat) (na1 : Nat) (aA1 : Nat → Nat) (aS1 : Nat → Nat), (sq < 9999 ∧ y2 = nI (sq + 1)) ∧ (y4 = nI pr0 ∧ pr0 ≤ 2) ∧ (y5 = nI f0 ∧ f0 ≤ 15) ∧ ((y1 = nI cn ∧ sealM cn aA aS na nr ru lw hw em so ta (sq + 1) au pr0 r0 na1 aA1 aS1 em1) ∨ (¬ y1 = nI cn ∧ (1 < cn ∧ y1 = nI (cn - 1) ∧ tm < bd) ∧ sealM (cn - 1) aA aS na nr ru lw hw em so ta (sq + 1) au pr0 r0 na1 aA1 aS1 em1) ∨ (¬ y1 = nI cn ∧ ¬ (1 < cn ∧ y1 = nI (cn - 1) ∧ tm < bd) ∧ r0 = -10 ∧ na1 = na ∧ aA1 = aA ∧ aS1 = aS ∧ em1 = em)) ∧ ((¬ r0 < 0 ∧ lt1 = lt + 1 ∧ nt1 = nt ∧ an1 = 1) ∨ (r0 < 0 ∧ lt1 = lt ∧ nt1 = nt + 1 ∧ an1 = an)) ∧ M1 h = some (moO h (nI le) bp (nI nr) (nI wh) (nI tl) (nI ne) (nI nf) (nI na1) (nI an1) (nI tm) (nI cn) (nI cs) (nI bd) (nI lt1) (nI nt1) fx fy) ∧ M1 (h + 24) = some (.inl (ca 0, 512, .inl (iN aA1))) ∧ M1 (h + 25) = some (.inl (ca 0, 512, .inl (iN aS1))) ∧ M1 (h + 27) = some (.inl (ca 0, 4, .inl (iN em1))) ∧ (∀ z, z ≠ h → z ≠ (h + 24) → z ≠ (h + 25) → z ≠ (h + 27) → M1 z = M z) ∧ r0 = r))) := by
  refine gm_body (by decide) (Nat.le_of_ble_eq_true rfl) (fun p e s m below meth c ls hx hb hr hts hown hlk hml hnm hP hK hN hX hS hl => ?_)
  have htl : ∀ w ∈ LW, w.before _ s = true := fun w h => hts w (List.mem_cons_of_mem _ h)
  have hown : s.vm.findClass "PacketGateModel" = some m.cls := hown
  have hl : lv_has ls 8 [(0, .ref h), (1, .int y1), (2, .int y2), (3, .int (nI au)), (4, .int y4), (5, .int y5)] := hl
  generalize hQ : MQ below _ _ s _ _ A = Q
  rcases un_em y1 y2 y4 y5 cn with ⟨sq, pr0, f0, h0, rfl, rfl, rfl, rfl⟩ | ⟨sq, pr0, f0, h0, hy, rfl, rfl, rfl, rfl⟩ | ⟨sq, pr0, f0, h0, hy, hy2, rfl, rfl, rfl⟩ | hno
  · skip
    refine lv_iload_n hx hb d_Mo_unseal_0 rfl (lv_at hl 2 rfl) ?_
    refine lv_iconst (v := nI 1) hx hb d_Mo_unseal_1 (by decide) ?_
    refine ln_lt (tgt := 32) hx hb d_Mo_unseal_2 (by decide) (by omega) (by omega) (fun c_1 => ?_) (fun c_1 => ?_)
    · skip
      exfalso; omega
    · skip
      refine lv_iload_n hx hb d_Mo_unseal_5 rfl (lv_at hl 2 rfl) ?_
      refine lv_sipush (v := nI 9999) hx hb d_Mo_unseal_6 (by decide) ?_
      refine ln_gt (tgt := 32) hx hb d_Mo_unseal_9 (by decide) (by omega) (by omega) (fun c_2 => ?_) (fun c_2 => ?_)
      · skip
        exfalso; omega
      · skip
        refine lv_iload hx hb d_Mo_unseal_12 (lv_at hl 4 rfl) ?_
        refine gc_S (n := 1) [.int (nI pr0)] [] hx hb hml hown hts hK hN hX hP hS (c_Mo_isProtocol (nI pr0)) k_923 k_924 k_10 k_925 (by decide +kernel) ⟨by decide, by decide⟩ rfl hl.1 rfl (Nat.le_of_ble_eq_true rfl) d_Mo_unseal_14 ⟨by decide, by decide⟩ (fun r N1 M_3 H locs hw hP hS => ?_)
        obtain ⟨rfl, hw⟩ := hw
        rcases hw with ⟨c_4, rfl, rfl⟩ | ⟨c_5, rfl, rfl⟩
        · skip
          refine W.eq (g2 := F0 m 17 ls [.int (nI 1)]) rfl ?_
          refine lv_if_eq (tgt := 32) hx hb d_Mo_unseal_17 (by decide) (fun q => absurd q (by decide)) (fun _ => ?_)
          refine lv_iload hx hb d_Mo_unseal_20 (lv_at hl 5 rfl) ?_
          refine lz_lt (tgt := 32) hx hb d_Mo_unseal_22 (by decide) (by omega) ?_
          refine lv_iload hx hb d_Mo_unseal_25 (lv_at hl 5 rfl) ?_
          refine lv_bipush (v := nI 15) hx hb d_Mo_unseal_27 (by decide) ?_
          refine ln_le (tgt := 34) hx hb d_Mo_unseal_29 (by decide) (by omega) (by omega) (fun c_7 => ?_) (fun c_7 => ?_)
          · skip
            refine lv_aload_n hx hb d_Mo_unseal_34 rfl (lv_at hl 0 rfl) ?_
            refine gm_get (C := R_Mo) (T := F_Mo) (n := 44) hx hb htl i_Mo hown hK hP eh rfl 37 (by decide) (htl _ k_780) (fun _ h => h) rfl d_Mo_unseal_35 ?_
            refine lv_iconst (v := nI 1) hx hb d_Mo_unseal_38 (by decide) ?_
            refine ln_le (tgt := 67) hx hb d_Mo_unseal_39 (by decide) (by omega) (by omega) (fun c_8 => ?_) (fun c_8 => ?_)
            · skip
              refine lv_iconst (v := nI 0) hx hb d_Mo_unseal_67 (by decide) ?_
              refine lv_istore (lv' := [(6, .int (nI 0)), (0, .ref h), (1, .int (nI cn)), (2, .int (nI (sq + 1))), (3, .int (nI au)), (4, .int (nI pr0)), (5, .int (nI f0))]) hx hb d_Mo_unseal_68 hl (by decide) rfl (fun ls hl => ?_)
              refine lv_iload_n hx hb d_Mo_unseal_70 rfl (lv_at hl 2 rfl) ?_
              refine lv_aload_n hx hb d_Mo_unseal_71 rfl (lv_at hl 1 rfl) ?_
              refine gm_get (C := R_Mo) (T := F_Mo) (n := 44) hx hb htl i_Mo hown hK hP eh rfl 37 (by decide) (htl _ k_780) (fun _ h => h) rfl d_Mo_unseal_72 ?_
              refine ln_eq (tgt := 90) hx hb d_Mo_unseal_75 (by decide) (by omega) (by omega) (fun c_9 => ?_) (fun c_9 => ?_)
              · skip
                refine lv_iload_n hx hb d_Mo_unseal_90 rfl (lv_at hl 3 rfl) ?_
                refine lv_aload_n hx hb d_Mo_unseal_91 rfl (lv_at hl 1 rfl) ?_
                refine lv_iload_n hx hb d_Mo_unseal_92 rfl (lv_at hl 2 rfl) ?_
                refine gc_V (q := (R_Mo, F_Mo, 44)) (n := 1) [.int (nI cn)] [.int (nI (sq + 1))] hx hb hml hown hts hK hN hX hP hS (c_Mo_top eh m24 m25 hacc hna (by omega)) rfl eh k_1006 k_1008 ks_Mo_top k_10 k_1009 (by decide +kernel) ⟨by decide, by decide⟩ rfl hl.1 rfl (Nat.le_of_ble_eq_true rfl) d_Mo_unseal_93 ⟨by decide, by decide⟩ (fun r N1 M_10 H locs hw hP hS => ?_)
                obtain ⟨rfl, hw⟩ := hw
                obtain ⟨rfl, rfl⟩ := hw
                refine W.eq (g2 := F0 m 96 ls [.int (nI (topA aA aS cn na)), .int (nI (sq + 1))]) rfl ?_
                refine lv_bipush (v := nI 32) hx hb d_Mo_unseal_96 (by decide) ?_
                refine lv_isub hx hb d_Mo_unseal_98 ?_
                refine lv_icmp_gt (tgt := 109) hx hb d_Mo_unseal_99 (by decide) (fun c_11 => ?_) (fun c_11 => ?_)
                · skip
                  refine lv_iconst (v := nI 0) hx hb d_Mo_unseal_109 (by decide) ?_
                  refine lv_istore (lv' := [(7, .int (nI 0)), (6, .int (nI 0)), (0, .ref h), (1, .int (nI cn)), (2, .int (nI (sq + 1))), (3, .int (nI au)), (4, .int (nI pr0)), (5, .int (nI f0))]) hx hb d_Mo_unseal_110 hl (by decide) rfl (fun ls hl => ?_)
                  have loop_112 : ∀ (fu : Nat) (i : Nat) (ls : Array Slot) (H : Heap) (locs : List Loc), (i ≤ na) → (∀ z, z < i → ¬ (aA z = cn ∧ aS z = sq + 1)) → (na - i) < fu → gm_P D cls A N M H → va_S A s.heap H locs → lv_has ls 8 [(0, .ref h), (1, .int (nI cn)), (2, .int (nI (sq + 1))), (3, .int (nI au)), (4, .int (nI pr0)), (7, .int (nI i))] → W p l e ({ frames := 2, cells := 0, slots := 0, locals := 48 }) s m ([.ref h, .int (nI cn), .int (nI (sq + 1)), .int (nI au), .int (nI pr0), .int (nI f0)] : List Value).toArray below meth c H locs (0) (0) Q (F0 m 112 ls []) := by
                    intro fu
                    induction fu with
                    | zero => intro i ls H locs hi hno1 hk; exact absurd hk (Nat.not_lt_zero _)
                    | succ fu ih_112 =>
                      intro i ls H locs hi hno1 hk hP hS hl
                      refine lv_iload hx hb d_Mo_unseal_112 (lv_at hl 5 rfl) ?_
                      refine lv_aload_n hx hb d_Mo_unseal_114 rfl (lv_at hl 0 rfl) ?_
                      refine gm_get (C := R_Mo) (T := F_Mo) (n := 44) hx hb htl i_Mo hown hK hP eh rfl 32 (by decide) (htl _ k_775) (fun _ h => h) rfl d_Mo_unseal_115 ?_
                      refine ln_ge (tgt := 156) hx hb d_Mo_unseal_118 (by decide) (by omega) (by omega) (fun c_12 => ?_) (fun c_12 => ?_)
                      · skip
                        refine lv_iload_n hx hb d_Mo_unseal_156 rfl (lv_at hl 3 rfl) ?_
                        refine lz_ne (tgt := 167) hx hb d_Mo_unseal_157 (by decide) (by omega) (fun c_13 => ?_) (fun c_13 => ?_)
                        · skip
                          refine lv_aload_n hx hb d_Mo_unseal_167 rfl (lv_at hl 0 rfl) ?_
                          refine gm_get (C := R_Mo) (T := F_Mo) (n := 44) hx hb htl i_Mo hown hK hP eh rfl 30 (by decide) (htl _ k_773) (fun _ h => h) rfl d_Mo_unseal_168 ?_
                          refine lv_aload_n hx hb d_Mo_unseal_171 rfl (lv_at hl 0 rfl) ?_
                          refine gm_get (C := R_Mo) (T := F_Mo) (n := 44) hx hb htl i_Mo hown hK hP eh rfl 32 (by decide) (htl _ k_775) (fun _ h => h) rfl d_Mo_unseal_172 ?_
                          refine lv_iload_n hx hb d_Mo_unseal_175 rfl (lv_at hl 1 rfl) ?_
                          refine gz_iast hx hb hK hP hS 0 m24 rfl (by omega) (by omega) d_Mo_unseal_176 (fun H locs hP hS => ?_)
                          have hP : gm_P D cls A N (gm_up M (h + 24) (.inl (ca 0, 512, .inl (iN (va_up aA na cn))))) H := hP
                          have h_14 := gm_pass (k := (h + 24)) (y := .inl (ca 0, 512, .inl (iN (va_up aA na cn)))) eh (gm_ne eh m24 (fun h => by cases h))
                          have h_15 := gm_pass (k := (h + 24)) (y := .inl (ca 0, 512, .inl (iN (va_up aA na cn)))) m2 (gm_ne m2 m24 (fun h => by simp at h))
                          have h_16 := gm_pass (k := (h + 24)) (y := .inl (ca 0, 512, .inl (iN (va_up aA na cn)))) m3 (gm_ne m3 m24 (fun h => by simp at h))
                          have h_17 := gm_pass (k := (h + 24)) (y := .inl (ca 0, 512, .inl (iN (va_up aA na cn)))) m4 (gm_ne m4 m24 (fun h => by simp at h))
                          have h_18 := gm_pass (k := (h + 24)) (y := .inl (ca 0, 512, .inl (iN (va_up aA na cn)))) m5 (gm_ne m5 m24 (fun h => by simp at h))
                          have h_19 := gm_pass (k := (h + 24)) (y := .inl (ca 0, 512, .inl (iN (va_up aA na cn)))) m6 (gm_ne m6 m24 (fun h => by simp at h))
                          have h_20 := gm_pass (k := (h + 24)) (y := .inl (ca 0, 512, .inl (iN (va_up aA na cn)))) m25 (by omega)
                          have h_21 := gm_pass (k := (h + 24)) (y := .inl (ca 0, 512, .inl (iN (va_up aA na cn)))) m26 (gm_ne m26 m24 (fun h => by simp at h))
                          have h_22 := gm_pass (k := (h + 24)) (y := .inl (ca 0, 512, .inl (iN (va_up aA na cn)))) m27 (gm_ne m27 m24 (fun h => by simp at h))
                          have h_23 := gm_up_self M (h + 24) (.inl (ca 0, 512, .inl (iN (va_up aA na cn))))
                          refine lv_aload_n hx hb d_Mo_unseal_177 rfl (lv_at hl 0 rfl) ?_
                          refine gm_get (C := R_Mo) (T := F_Mo) (n := 44) hx hb htl i_Mo hown hK hP h_14 rfl 31 (by decide) (htl _ k_774) (fun _ h => h) rfl d_Mo_unseal_178 ?_
                          refine lv_aload_n hx hb d_Mo_unseal_181 rfl (lv_at hl 0 rfl) ?_
                          refine gm_get (C := R_Mo) (T := F_Mo) (n := 44) hx hb htl i_Mo hown hK hP h_14 rfl 32 (by decide) (htl _ k_775) (fun _ h => h) rfl d_Mo_unseal_182 ?_
                          refine lv_iload_n hx hb d_Mo_unseal_185 rfl (lv_at hl 2 rfl) ?_
                          refine gz_iast hx hb hK hP hS 0 h_20 rfl (by omega) (by omega) d_Mo_unseal_186 (fun H locs hP hS => ?_)
                          have hP : gm_P D cls A N (gm_up (gm_up M (h + 24) (.inl (ca 0, 512, .inl (iN (va_up aA na cn))))) (h + 25) (.inl (ca 0, 512, .inl (iN (va_up aS na (sq + 1)))))) H := hP
                          have h_24 := gm_pass (k := (h + 25)) (y := .inl (ca 0, 512, .inl (iN (va_up aS na (sq + 1))))) h_14 (gm_ne h_14 h_20 (fun h => by cases h))
                          have h_25 := gm_pass (k := (h + 25)) (y := .inl (ca 0, 512, .inl (iN (va_up aS na (sq + 1))))) h_15 (gm_ne h_15 h_20 (fun h => by simp at h))
                          have h_26 := gm_pass (k := (h + 25)) (y := .inl (ca 0, 512, .inl (iN (va_up aS na (sq + 1))))) h_16 (gm_ne h_16 h_20 (fun h => by simp at h))
                          have h_27 := gm_pass (k := (h + 25)) (y := .inl (ca 0, 512, .inl (iN (va_up aS na (sq + 1))))) h_17 (gm_ne h_17 h_20 (fun h => by simp at h))
                          have h_28 := gm_pass (k := (h + 25)) (y := .inl (ca 0, 512, .inl (iN (va_up aS na (sq + 1))))) h_18 (gm_ne h_18 h_20 (fun h => by simp at h))
                          have h_29 := gm_pass (k := (h + 25)) (y := .inl (ca 0, 512, .inl (iN (va_up aS na (sq + 1))))) h_19 (gm_ne h_19 h_20 (fun h => by simp at h))
                          have h_30 := gm_pass (k := (h + 25)) (y := .inl (ca 0, 512, .inl (iN (va_up aS na (sq + 1))))) h_21 (gm_ne h_21 h_20 (fun h => by simp at h))
                          have h_31 := gm_pass (k := (h + 25)) (y := .inl (ca 0, 512, .inl (iN (va_up aS na (sq + 1))))) h_22 (gm_ne h_22 h_20 (fun h => by simp at h))
                          have h_32 := gm_pass (k := (h + 25)) (y := .inl (ca 0, 512, .inl (iN (va_up aS na (sq + 1))))) h_23 (by omega)
                          have h_33 := gm_up_self (gm_up M (h + 24) (.inl (ca 0, 512, .inl (iN (va_up aA na cn))))) (h + 25) (.inl (ca 0, 512, .inl (iN (va_up aS na (sq + 1)))))
                          refine lv_aload_n hx hb d_Mo_unseal_187 rfl (lv_at hl 0 rfl) ?_
                          refine lv_dup hx hb d_Mo_unseal_188 rfl ?_
                          refine gm_get (C := R_Mo) (T := F_Mo) (n := 44) hx hb htl i_Mo hown hK hP h_24 rfl 32 (by decide) (htl _ k_775) (fun _ h => h) rfl d_Mo_unseal_189 ?_
                          refine lv_iconst (v := nI 1) hx hb d_Mo_unseal_192 (by decide) ?_
                          refine lv_iadd hx hb d_Mo_unseal_193 ?_
                          rw [show (nI na) + (nI 1) = nI (na + 1) from nI_add _ _]
                          refine gm_put (C := R_Mo) (T := F_Mo) (n := 44) (ty := .int) hx hb htl i_Mo t_Mo tk_Mo n_Mo hown hK hP hS h_24 rfl 32 (by decide) (htl _ k_775) (fun _ h => h) rfl (tk_Mo 32 (by decide)) rfl rfl (Nat.le_of_ble_eq_true rfl) d_Mo_unseal_194 (fun H locs hP hS => ?_)
                          have hP : gm_P D cls A N (gm_up (gm_up (gm_up M (h + 24) (.inl (ca 0, 512, .inl (iN (va_up aA na cn))))) (h + 25) (.inl (ca 0, 512, .inl (iN (va_up aS na (sq + 1)))))) h (moO h (nI le) bp (nI nr) (nI wh) (nI tl) (nI ne) (nI nf) (nI (na + 1)) (nI an) (nI tm) (nI cn) (nI cs) (nI bd) (nI lt) (nI nt) fx fy)) H := hP
                          have h_34 := gm_pass (k := h) (y := moO h (nI le) bp (nI nr) (nI wh) (nI tl) (nI ne) (nI nf) (nI (na + 1)) (nI an) (nI tm) (nI cn) (nI cs) (nI bd) (nI lt) (nI nt) fx fy) h_25 (gm_ne h_25 h_24 (fun h => by cases h))
                          have h_35 := gm_pass (k := h) (y := moO h (nI le) bp (nI nr) (nI wh) (nI tl) (nI ne) (nI nf) (nI (na + 1)) (nI an) (nI tm) (nI cn) (nI cs) (nI bd) (nI lt) (nI nt) fx fy) h_26 (gm_ne h_26 h_24 (fun h => by cases h))
                          have h_36 := gm_pass (k := h) (y := moO h (nI le) bp (nI nr) (nI wh) (nI tl) (nI ne) (nI nf) (nI (na + 1)) (nI an) (nI tm) (nI cn) (nI cs) (nI bd) (nI lt) (nI nt) fx fy) h_27 (gm_ne h_27 h_24 (fun h => by cases h))
                          have h_37 := gm_pass (k := h) (y := moO h (nI le) bp (nI nr) (nI wh) (nI tl) (nI ne) (nI nf) (nI (na + 1)) (nI an) (nI tm) (nI cn) (nI cs) (nI bd) (nI lt) (nI nt) fx fy) h_28 (gm_ne h_28 h_24 (fun h => by cases h))
                          have h_38 := gm_pass (k := h) (y := moO h (nI le) bp (nI nr) (nI wh) (nI tl) (nI ne) (nI nf) (nI (na + 1)) (nI an) (nI tm) (nI cn) (nI cs) (nI bd) (nI lt) (nI nt) fx fy) h_29 (gm_ne h_29 h_24 (fun h => by cases h))
                          have h_39 := gm_pass (k := h) (y := moO h (nI le) bp (nI nr) (nI wh) (nI tl) (nI ne) (nI nf) (nI (na + 1)) (nI an) (nI tm) (nI cn) (nI cs) (nI bd) (nI lt) (nI nt) fx fy) h_30 (gm_ne h_30 h_24 (fun h => by cases h))
                          have h_40 := gm_pass (k := h) (y := moO h (nI le) bp (nI nr) (nI wh) (nI tl) (nI ne) (nI nf) (nI (na + 1)) (nI an) (nI tm) (nI cn) (nI cs) (nI bd) (nI lt) (nI nt) fx fy) h_31 (gm_ne h_31 h_24 (fun h => by cases h))
                          have h_41 := gm_pass (k := h) (y := moO h (nI le) bp (nI nr) (nI wh) (nI tl) (nI ne) (nI nf) (nI (na + 1)) (nI an) (nI tm) (nI cn) (nI cs) (nI bd) (nI lt) (nI nt) fx fy) h_32 (gm_ne h_32 h_24 (fun h => by cases h))
                          have h_42 := gm_pass (k := h) (y := moO h (nI le) bp (nI nr) (nI wh) (nI tl) (nI ne) (nI nf) (nI (na + 1)) (nI an) (nI tm) (nI cn) (nI cs) (nI bd) (nI lt) (nI nt) fx fy) h_33 (gm_ne h_33 h_24 (fun h => by cases h))
                          have h_43 := gm_up_self (gm_up (gm_up M (h + 24) (.inl (ca 0, 512, .inl (iN (va_up aA na cn))))) (h + 25) (.inl (ca 0, 512, .inl (iN (va_up aS na (sq + 1)))))) h (moO h (nI le) bp (nI nr) (nI wh) (nI tl) (nI ne) (nI nf) (nI (na + 1)) (nI an) (nI tm) (nI cn) (nI cs) (nI bd) (nI lt) (nI nt) fx fy)
                          refine lv_aload_n hx hb d_Mo_unseal_197 rfl (lv_at hl 0 rfl) ?_
                          refine gm_get (C := R_Mo) (T := F_Mo) (n := 44) hx hb htl i_Mo hown hK hP h_43 rfl 33 (by decide) (htl _ k_776) (fun _ h => h) rfl d_Mo_unseal_198 ?_
                          refine lv_iconst (v := nI 0) hx hb d_Mo_unseal_201 (by decide) ?_
                          refine gz_iald hx hb hK hP 0 h_39 rfl (by omega) (by omega) d_Mo_unseal_202 ?_
                          rw [show hd 0 = so / 256 from hhd.1]
                          refine gc_S (n := 1) [.int (nI (so / 256))] [] hx hb hml hown hts hK hN hX hP hS (c_Mo_outside (by omega)) k_956 k_957 k_10 k_958 (by decide +kernel) ⟨by decide, by decide⟩ rfl hl.1 rfl (Nat.le_of_ble_eq_true rfl) d_Mo_unseal_203 ⟨by decide, by decide⟩ (fun r N1 M_44 H locs hw hP hS => ?_)
                          obtain ⟨rfl, hw⟩ := hw
                          rcases hw with ⟨c_45, rfl, rfl⟩ | ⟨c_46, rfl, rfl⟩
                          · skip
                            refine W.eq (g2 := F0 m 206 ls [.int (nI 1)]) rfl ?_
                            refine lv_if_eq (tgt := 221) hx hb d_Mo_unseal_206 (by decide) (fun q => absurd q (by decide)) (fun _ => ?_)
                            refine lv_aload_n hx hb d_Mo_unseal_209 rfl (lv_at hl 0 rfl) ?_
                            refine gm_get (C := R_Mo) (T := F_Mo) (n := 44) hx hb htl i_Mo hown hK hP h_43 rfl 33 (by decide) (htl _ k_776) (fun _ h => h) rfl d_Mo_unseal_210 ?_
                            refine lv_iconst (v := nI 2) hx hb d_Mo_unseal_213 (by decide) ?_
                            refine gz_iald hx hb hK hP 0 h_39 rfl (by omega) (by omega) d_Mo_unseal_214 ?_
                            rw [show hd 2 = ta / 256 from hhd.2.2.1]
                            refine gc_S (n := 1) [.int (nI (ta / 256))] [] hx hb hml hown hts hK hN hX hP hS (c_Mo_inside (nI (ta / 256))) k_926 k_927 k_10 k_928 (by decide +kernel) ⟨by decide, by decide⟩ rfl hl.1 rfl (Nat.le_of_ble_eq_true rfl) d_Mo_unseal_215 ⟨by decide, by decide⟩ (fun r N1 M_47 H locs hw hP hS => ?_)
                            obtain ⟨rfl, hw⟩ := hw
                            rcases hw with ⟨c_48, rfl, rfl⟩ | ⟨c_49, rfl, rfl⟩
                            · skip
                              refine W.eq (g2 := F0 m 218 ls [.int (nI 1)]) rfl ?_
                              have b_50 : ta / 256 ≤ 127 := (inr_nI (by omega) (by decide)).mp c_48
                              refine lv_if_ne (tgt := 228) hx hb d_Mo_unseal_218 (by decide) (fun _ => ?_) (fun q => absurd q (by decide))
                              refine lv_aload_n hx hb d_Mo_unseal_228 rfl (lv_at hl 0 rfl) ?_
                              refine lv_iconst (v := nI 0) hx hb d_Mo_unseal_229 (by decide) ?_
                              refine lv_iload hx hb d_Mo_unseal_230 (lv_at hl 4 rfl) ?_
                              refine lv_aload_n hx hb d_Mo_unseal_232 rfl (lv_at hl 0 rfl) ?_
                              refine gm_get (C := R_Mo) (T := F_Mo) (n := 44) hx hb htl i_Mo hown hK hP h_43 rfl 33 (by decide) (htl _ k_776) (fun _ h => h) rfl d_Mo_unseal_233 ?_
                              refine lv_iconst (v := nI 0) hx hb d_Mo_unseal_236 (by decide) ?_
                              refine gz_iald hx hb hK hP 0 h_39 rfl (by omega) (by omega) d_Mo_unseal_237 ?_
                              rw [show hd 0 = so / 256 from hhd.1]
                              refine lv_aload_n hx hb d_Mo_unseal_238 rfl (lv_at hl 0 rfl) ?_
                              refine gm_get (C := R_Mo) (T := F_Mo) (n := 44) hx hb htl i_Mo hown hK hP h_43 rfl 33 (by decide) (htl _ k_776) (fun _ h => h) rfl d_Mo_unseal_239 ?_
                              refine lv_iconst (v := nI 2) hx hb d_Mo_unseal_242 (by decide) ?_
                              refine gz_iald hx hb hK hP 0 h_39 rfl (by omega) (by omega) d_Mo_unseal_243 ?_
                              rw [show hd 2 = ta / 256 from hhd.2.2.1]
                              refine lv_aload_n hx hb d_Mo_unseal_244 rfl (lv_at hl 0 rfl) ?_
                              refine gm_get (C := R_Mo) (T := F_Mo) (n := 44) hx hb htl i_Mo hown hK hP h_43 rfl 33 (by decide) (htl _ k_776) (fun _ h => h) rfl d_Mo_unseal_245 ?_
                              refine lv_iconst (v := nI 3) hx hb d_Mo_unseal_248 (by decide) ?_
                              refine gz_iald hx hb hK hP 0 h_39 rfl (by omega) (by omega) d_Mo_unseal_249 ?_
                              rw [show hd 3 = ta % 256 from hhd.2.2.2]
                              refine gc_V (q := (R_Mo, F_Mo, 44)) (n := 5) [.int (nI 0), .int (nI pr0), .int (nI (so / 256)), .int (nI (ta / 256)), .int (nI (ta % 256))] [] hx hb hml hown hts hK hN hX hP hS (c_Mo_policy (ru := ru) (lw := lw) (hw := hw) (s0 := so) (t0 := ta) h_43 h_34 h_35 h_36 h_37 h_38 hRU hU (by omega) (by omega) (by omega) (by omega) (by omega) (by omega)) rfl h_43 k_979 k_981 ks_Mo_policy k_10 k_982 (by decide +kernel) ⟨by decide, by decide⟩ rfl hl.1 rfl (Nat.le_of_ble_eq_true rfl) d_Mo_unseal_250 ⟨by decide, by decide⟩ (fun r N1 M_51 H locs hw hP hS => ?_)
                              obtain ⟨rfl, hw⟩ := hw
                              obtain ⟨av_52, c_53, rfl, rfl⟩ := hw
                              refine W.eq (g2 := F0 m 253 ls [.int (nI av_52)]) rfl ?_
                              have hp_54 := pol_F c_53
                              have b_55 := pol_le hU c_53
                              refine lv_iconst (v := nI 2) hx hb d_Mo_unseal_253 (by decide) ?_
                              refine ln_eq (tgt := 264) hx hb d_Mo_unseal_254 (by decide) (by omega) (by omega) (fun c_56 => ?_) (fun c_56 => ?_)
                              · skip
                                refine lv_aload_n hx hb d_Mo_unseal_264 rfl (lv_at hl 0 rfl) ?_
                                refine lv_iconst (v := nI 0) hx hb d_Mo_unseal_265 (by decide) ?_
                                refine lv_aload_n hx hb d_Mo_unseal_266 rfl (lv_at hl 0 rfl) ?_
                                refine gm_get (C := R_Mo) (T := F_Mo) (n := 44) hx hb htl i_Mo hown hK hP h_43 rfl 33 (by decide) (htl _ k_776) (fun _ h => h) rfl d_Mo_unseal_267 ?_
                                refine lv_iconst (v := nI 0) hx hb d_Mo_unseal_270 (by decide) ?_
                                refine gz_iald hx hb hK hP 0 h_39 rfl (by omega) (by omega) d_Mo_unseal_271 ?_
                                rw [show hd 0 = so / 256 from hhd.1]
                                refine lv_aload_n hx hb d_Mo_unseal_272 rfl (lv_at hl 0 rfl) ?_
                                refine gm_get (C := R_Mo) (T := F_Mo) (n := 44) hx hb htl i_Mo hown hK hP h_43 rfl 33 (by decide) (htl _ k_776) (fun _ h => h) rfl d_Mo_unseal_273 ?_
                                refine lv_iconst (v := nI 1) hx hb d_Mo_unseal_276 (by decide) ?_
                                refine gz_iald hx hb hK hP 0 h_39 rfl (by omega) (by omega) d_Mo_unseal_277 ?_
                                rw [show hd 1 = so % 256 from hhd.2.1]
                                refine lv_aload_n hx hb d_Mo_unseal_278 rfl (lv_at hl 0 rfl) ?_
                                refine gm_get (C := R_Mo) (T := F_Mo) (n := 44) hx hb htl i_Mo hown hK hP h_43 rfl 33 (by decide) (htl _ k_776) (fun _ h => h) rfl d_Mo_unseal_279 ?_
                                refine lv_iconst (v := nI 2) hx hb d_Mo_unseal_282 (by decide) ?_
                                refine gz_iald hx hb hK hP 0 h_39 rfl (by omega) (by omega) d_Mo_unseal_283 ?_
                                rw [show hd 2 = ta / 256 from hhd.2.2.1]
                                refine lv_aload_n hx hb d_Mo_unseal_284 rfl (lv_at hl 0 rfl) ?_
                                refine gm_get (C := R_Mo) (T := F_Mo) (n := 44) hx hb htl i_Mo hown hK hP h_43 rfl 33 (by decide) (htl _ k_776) (fun _ h => h) rfl d_Mo_unseal_285 ?_
                                refine lv_iconst (v := nI 3) hx hb d_Mo_unseal_288 (by decide) ?_
                                refine gz_iald hx hb hK hP 0 h_39 rfl (by omega) (by omega) d_Mo_unseal_289 ?_
                                rw [show hd 3 = ta % 256 from hhd.2.2.2]
                                refine gc_V (q := (R_Mo, F_Mo, 44)) (n := 5) [.int (nI 0), .int (nI (so / 256)), .int (nI (so % 256)), .int (nI (ta / 256)), .int (nI (ta % 256))] [] hx hb hml hown hts hK hN hX hP hS (c_Mo_emit (nI 0) h_43 h_40) rfl h_43 k_975 k_977 ks_Mo_emit k_10 k_978 (by decide +kernel) ⟨by decide, by decide⟩ rfl hl.1 rfl (Nat.le_of_ble_eq_true rfl) d_Mo_unseal_290 ⟨by decide, by decide⟩ (fun r N1 M_57 H locs hw hP hS => ?_)
                                obtain ⟨rfl, hw⟩ := hw
                                obtain ⟨rfl, rfl⟩ := hw
                                have h_58 := gm_pass (k := (h + 27)) (y := .inl (ca 0, 4, .inl (iN (eUp em (so / 256) (so % 256) (ta / 256) (ta % 256))))) h_34 (gm_ne h_34 h_40 (fun h => by simp at h))
                                have h_59 := gm_pass (k := (h + 27)) (y := .inl (ca 0, 4, .inl (iN (eUp em (so / 256) (so % 256) (ta / 256) (ta % 256))))) h_35 (gm_ne h_35 h_40 (fun h => by simp at h))
                                have h_60 := gm_pass (k := (h + 27)) (y := .inl (ca 0, 4, .inl (iN (eUp em (so / 256) (so % 256) (ta / 256) (ta % 256))))) h_36 (gm_ne h_36 h_40 (fun h => by simp at h))
                                have h_61 := gm_pass (k := (h + 27)) (y := .inl (ca 0, 4, .inl (iN (eUp em (so / 256) (so % 256) (ta / 256) (ta % 256))))) h_37 (gm_ne h_37 h_40 (fun h => by simp at h))
                                have h_62 := gm_pass (k := (h + 27)) (y := .inl (ca 0, 4, .inl (iN (eUp em (so / 256) (so % 256) (ta / 256) (ta % 256))))) h_38 (gm_ne h_38 h_40 (fun h => by simp at h))
                                have h_63 := gm_pass (k := (h + 27)) (y := .inl (ca 0, 4, .inl (iN (eUp em (so / 256) (so % 256) (ta / 256) (ta % 256))))) h_39 (by omega)
                                have h_64 := gm_pass (k := (h + 27)) (y := .inl (ca 0, 4, .inl (iN (eUp em (so / 256) (so % 256) (ta / 256) (ta % 256))))) h_41 (gm_ne h_41 h_40 (fun h => by simp at h))
                                have h_65 := gm_pass (k := (h + 27)) (y := .inl (ca 0, 4, .inl (iN (eUp em (so / 256) (so % 256) (ta / 256) (ta % 256))))) h_42 (gm_ne h_42 h_40 (fun h => by simp at h))
                                have h_66 := gm_pass (k := (h + 27)) (y := .inl (ca 0, 4, .inl (iN (eUp em (so / 256) (so % 256) (ta / 256) (ta % 256))))) h_43 (gm_ne h_43 h_40 (fun h => by cases h))
                                have h_67 := gm_up_self (gm_up (gm_up (gm_up M (h + 24) (.inl (ca 0, 512, .inl (iN (va_up aA na cn))))) (h + 25) (.inl (ca 0, 512, .inl (iN (va_up aS na (sq + 1)))))) h (moO h (nI le) bp (nI nr) (nI wh) (nI tl) (nI ne) (nI nf) (nI (na + 1)) (nI an) (nI tm) (nI cn) (nI cs) (nI bd) (nI lt) (nI nt) fx fy)) (h + 27) (.inl (ca 0, 4, .inl (iN (eUp em (so / 256) (so % 256) (ta / 256) (ta % 256)))))
                                have he_68 : gm_up (gm_up (gm_up (gm_up (gm_up M (h + 24) (.inl (ca 0, 512, .inl (iN (va_up aA na cn))))) (h + 25) (.inl (ca 0, 512, .inl (iN (va_up aS na (sq + 1)))))) h (moO h (nI le) bp (nI nr) (nI wh) (nI tl) (nI ne) (nI nf) (nI (na + 1)) (nI an) (nI tm) (nI cn) (nI cs) (nI bd) (nI lt) (nI nt) fx fy)) (h + 27) (.inl (ca 0, 4, .inl (iN (eUp em (so / 256) (so % 256) (ta / 256) (ta % 256)))))) h (moO h (nI le) bp (nI nr) (nI wh) (nI tl) (nI ne) (nI nf) (nI (na + 1)) (nI 1) (nI tm) (nI cn) (nI cs) (nI bd) (nI (lt + 1)) (nI nt) fx fy) = gm_up (gm_up (gm_up (gm_up M (h + 24) (.inl (ca 0, 512, .inl (iN (va_up aA na cn))))) (h + 25) (.inl (ca 0, 512, .inl (iN (va_up aS na (sq + 1)))))) h (moO h (nI le) bp (nI nr) (nI wh) (nI tl) (nI ne) (nI nf) (nI (na + 1)) (nI 1) (nI tm) (nI cn) (nI cs) (nI bd) (nI (lt + 1)) (nI nt) fx fy)) (h + 27) (.inl (ca 0, 4, .inl (iN (eUp em (so / 256) (so % 256) (ta / 256) (ta % 256))))) := (gm_swap (gm_ne h_67 h_66 (fun h => by cases h))).trans (congrArg (fun Z => gm_up Z (h + 27) (.inl (ca 0, 4, .inl (iN (eUp em (so / 256) (so % 256) (ta / 256) (ta % 256)))))) (gm_up_up _ _ _ _))
                                have hP := Eq.mp (congrArg (fun Z => gm_P D cls A N (Z) H) he_68) hP
                                have hP : gm_P D cls A N (gm_up (gm_up (gm_up (gm_up M (h + 24) (.inl (ca 0, 512, .inl (iN (va_up aA na cn))))) (h + 25) (.inl (ca 0, 512, .inl (iN (va_up aS na (sq + 1)))))) h (moO h (nI le) bp (nI nr) (nI wh) (nI tl) (nI ne) (nI nf) (nI (na + 1)) (nI 1) (nI tm) (nI cn) (nI cs) (nI bd) (nI (lt + 1)) (nI nt) fx fy)) (h + 27) (.inl (ca 0, 4, .inl (iN (eUp em (so / 256) (so % 256) (ta / 256) (ta % 256)))))) H := hP
                                have h_69 := (congrFun he_68 _).symm.trans (gm_pass (k := h) (y := moO h (nI le) bp (nI nr) (nI wh) (nI tl) (nI ne) (nI nf) (nI (na + 1)) (nI 1) (nI tm) (nI cn) (nI cs) (nI bd) (nI (lt + 1)) (nI nt) fx fy) h_58 (gm_ne h_58 h_66 (fun h => by cases h)))
                                have h_70 := (congrFun he_68 _).symm.trans (gm_pass (k := h) (y := moO h (nI le) bp (nI nr) (nI wh) (nI tl) (nI ne) (nI nf) (nI (na + 1)) (nI 1) (nI tm) (nI cn) (nI cs) (nI bd) (nI (lt + 1)) (nI nt) fx fy) h_59 (gm_ne h_59 h_66 (fun h => by cases h)))
                                have h_71 := (congrFun he_68 _).symm.trans (gm_pass (k := h) (y := moO h (nI le) bp (nI nr) (nI wh) (nI tl) (nI ne) (nI nf) (nI (na + 1)) (nI 1) (nI tm) (nI cn) (nI cs) (nI bd) (nI (lt + 1)) (nI nt) fx fy) h_60 (gm_ne h_60 h_66 (fun h => by cases h)))
                                have h_72 := (congrFun he_68 _).symm.trans (gm_pass (k := h) (y := moO h (nI le) bp (nI nr) (nI wh) (nI tl) (nI ne) (nI nf) (nI (na + 1)) (nI 1) (nI tm) (nI cn) (nI cs) (nI bd) (nI (lt + 1)) (nI nt) fx fy) h_61 (gm_ne h_61 h_66 (fun h => by cases h)))
                                have h_73 := (congrFun he_68 _).symm.trans (gm_pass (k := h) (y := moO h (nI le) bp (nI nr) (nI wh) (nI tl) (nI ne) (nI nf) (nI (na + 1)) (nI 1) (nI tm) (nI cn) (nI cs) (nI bd) (nI (lt + 1)) (nI nt) fx fy) h_62 (gm_ne h_62 h_66 (fun h => by cases h)))
                                have h_74 := (congrFun he_68 _).symm.trans (gm_pass (k := h) (y := moO h (nI le) bp (nI nr) (nI wh) (nI tl) (nI ne) (nI nf) (nI (na + 1)) (nI 1) (nI tm) (nI cn) (nI cs) (nI bd) (nI (lt + 1)) (nI nt) fx fy) h_63 (gm_ne h_63 h_66 (fun h => by cases h)))
                                have h_75 := (congrFun he_68 _).symm.trans (gm_pass (k := h) (y := moO h (nI le) bp (nI nr) (nI wh) (nI tl) (nI ne) (nI nf) (nI (na + 1)) (nI 1) (nI tm) (nI cn) (nI cs) (nI bd) (nI (lt + 1)) (nI nt) fx fy) h_64 (gm_ne h_64 h_66 (fun h => by cases h)))
                                have h_76 := (congrFun he_68 _).symm.trans (gm_pass (k := h) (y := moO h (nI le) bp (nI nr) (nI wh) (nI tl) (nI ne) (nI nf) (nI (na + 1)) (nI 1) (nI tm) (nI cn) (nI cs) (nI bd) (nI (lt + 1)) (nI nt) fx fy) h_65 (gm_ne h_65 h_66 (fun h => by cases h)))
                                have h_77 := (congrFun he_68 _).symm.trans (gm_pass (k := h) (y := moO h (nI le) bp (nI nr) (nI wh) (nI tl) (nI ne) (nI nf) (nI (na + 1)) (nI 1) (nI tm) (nI cn) (nI cs) (nI bd) (nI (lt + 1)) (nI nt) fx fy) h_67 (gm_ne h_67 h_66 (fun h => by cases h)))
                                have h_78 := (congrFun he_68 _).symm.trans (gm_up_self (gm_up (gm_up (gm_up (gm_up M (h + 24) (.inl (ca 0, 512, .inl (iN (va_up aA na cn))))) (h + 25) (.inl (ca 0, 512, .inl (iN (va_up aS na (sq + 1)))))) h (moO h (nI le) bp (nI nr) (nI wh) (nI tl) (nI ne) (nI nf) (nI (na + 1)) (nI an) (nI tm) (nI cn) (nI cs) (nI bd) (nI lt) (nI nt) fx fy)) (h + 27) (.inl (ca 0, 4, .inl (iN (eUp em (so / 256) (so % 256) (ta / 256) (ta % 256)))))) h (moO h (nI le) bp (nI nr) (nI wh) (nI tl) (nI ne) (nI nf) (nI (na + 1)) (nI 1) (nI tm) (nI cn) (nI cs) (nI bd) (nI (lt + 1)) (nI nt) fx fy))
                                refine W.eq (g2 := F0 m 293 ls [.int (nI 0)]) rfl ?_
                                rw [← hQ]
                                exact gc_iret hx hb hr hlk hP hS d_Mo_unseal_293 ⟨rfl, Or.inr ⟨sq, pr0, f0, (nI 0), (eUp em (so / 256) (so % 256) (ta / 256) (ta % 256)), (lt + 1), nt, 1, (na + 1), (va_up aA na cn), (va_up aS na (sq + 1)), ⟨h0.1, rfl⟩, ⟨rfl, h0.2.1⟩, ⟨rfl, h0.2.2⟩, (Or.inl ⟨rfl, Or.inr (Or.inr ⟨(fun q => q.elim ((un_old (topA_le _ (fun k hk => (hacc k hk).2)) (by omega)).mp c_11) (fun ⟨z, h1, h2, h3⟩ => hno1 z (by omega) ⟨h2, h3⟩)), by omega, rfl, rfl, rfl, (by unfold seF; rw [if_neg (by omega), hp_54, if_neg (by omega)])⟩)⟩), (Or.inl ⟨by decide, rfl, rfl, rfl⟩), h_78, h_75, h_76, h_77, (fun z q0 q1 q2 q3 => (gm_up_ne _ _ q3).trans ((gm_up_ne _ _ q0).trans ((gm_up_ne _ _ q2).trans ((gm_up_ne _ _ q1).trans (rfl))))), rfl⟩⟩
                              · skip
                                refine lv_aload_n hx hb d_Mo_unseal_257 rfl (lv_at hl 0 rfl) ?_
                                refine lv_bipush (v := (-4)) hx hb d_Mo_unseal_258 (by decide) ?_
                                refine gc_V (q := (R_Mo, F_Mo, 44)) (n := 1) [.int (-4)] [] hx hb hml hown hts hK hN hX hP hS (c_Mo_stop (-4) h_43) rfl h_43 k_959 k_961 ks_Mo_stop k_10 k_962 (by decide +kernel) ⟨by decide, by decide⟩ rfl hl.1 rfl (Nat.le_of_ble_eq_true rfl) d_Mo_unseal_260 ⟨by decide, by decide⟩ (fun r N1 M_79 H locs hw hP hS => ?_)
                                obtain ⟨rfl, hw⟩ := hw
                                obtain ⟨rfl, rfl⟩ := hw
                                have he_80 : gm_up (gm_up (gm_up (gm_up M (h + 24) (.inl (ca 0, 512, .inl (iN (va_up aA na cn))))) (h + 25) (.inl (ca 0, 512, .inl (iN (va_up aS na (sq + 1)))))) h (moO h (nI le) bp (nI nr) (nI wh) (nI tl) (nI ne) (nI nf) (nI (na + 1)) (nI an) (nI tm) (nI cn) (nI cs) (nI bd) (nI lt) (nI nt) fx fy)) h (moO h (nI le) bp (nI nr) (nI wh) (nI tl) (nI ne) (nI nf) (nI (na + 1)) (nI an) (nI tm) (nI cn) (nI cs) (nI bd) (nI lt) (nI (nt + 1)) fx fy) = gm_up (gm_up (gm_up M (h + 24) (.inl (ca 0, 512, .inl (iN (va_up aA na cn))))) (h + 25) (.inl (ca 0, 512, .inl (iN (va_up aS na (sq + 1)))))) h (moO h (nI le) bp (nI nr) (nI wh) (nI tl) (nI ne) (nI nf) (nI (na + 1)) (nI an) (nI tm) (nI cn) (nI cs) (nI bd) (nI lt) (nI (nt + 1)) fx fy) := gm_up_up _ _ _ _
                                have hP := Eq.mp (congrArg (fun Z => gm_P D cls A N Z H) he_80) hP
                                have h_81 := (congrFun he_80 _).symm.trans (gm_pass (k := h) (y := moO h (nI le) bp (nI nr) (nI wh) (nI tl) (nI ne) (nI nf) (nI (na + 1)) (nI an) (nI tm) (nI cn) (nI cs) (nI bd) (nI lt) (nI (nt + 1)) fx fy) h_34 (gm_ne h_34 h_43 (fun h => by cases h)))
                                have h_82 := (congrFun he_80 _).symm.trans (gm_pass (k := h) (y := moO h (nI le) bp (nI nr) (nI wh) (nI tl) (nI ne) (nI nf) (nI (na + 1)) (nI an) (nI tm) (nI cn) (nI cs) (nI bd) (nI lt) (nI (nt + 1)) fx fy) h_35 (gm_ne h_35 h_43 (fun h => by cases h)))
                                have h_83 := (congrFun he_80 _).symm.trans (gm_pass (k := h) (y := moO h (nI le) bp (nI nr) (nI wh) (nI tl) (nI ne) (nI nf) (nI (na + 1)) (nI an) (nI tm) (nI cn) (nI cs) (nI bd) (nI lt) (nI (nt + 1)) fx fy) h_36 (gm_ne h_36 h_43 (fun h => by cases h)))
                                have h_84 := (congrFun he_80 _).symm.trans (gm_pass (k := h) (y := moO h (nI le) bp (nI nr) (nI wh) (nI tl) (nI ne) (nI nf) (nI (na + 1)) (nI an) (nI tm) (nI cn) (nI cs) (nI bd) (nI lt) (nI (nt + 1)) fx fy) h_37 (gm_ne h_37 h_43 (fun h => by cases h)))
                                have h_85 := (congrFun he_80 _).symm.trans (gm_pass (k := h) (y := moO h (nI le) bp (nI nr) (nI wh) (nI tl) (nI ne) (nI nf) (nI (na + 1)) (nI an) (nI tm) (nI cn) (nI cs) (nI bd) (nI lt) (nI (nt + 1)) fx fy) h_38 (gm_ne h_38 h_43 (fun h => by cases h)))
                                have h_86 := (congrFun he_80 _).symm.trans (gm_pass (k := h) (y := moO h (nI le) bp (nI nr) (nI wh) (nI tl) (nI ne) (nI nf) (nI (na + 1)) (nI an) (nI tm) (nI cn) (nI cs) (nI bd) (nI lt) (nI (nt + 1)) fx fy) h_39 (gm_ne h_39 h_43 (fun h => by cases h)))
                                have h_87 := (congrFun he_80 _).symm.trans (gm_pass (k := h) (y := moO h (nI le) bp (nI nr) (nI wh) (nI tl) (nI ne) (nI nf) (nI (na + 1)) (nI an) (nI tm) (nI cn) (nI cs) (nI bd) (nI lt) (nI (nt + 1)) fx fy) h_40 (gm_ne h_40 h_43 (fun h => by cases h)))
                                have h_88 := (congrFun he_80 _).symm.trans (gm_pass (k := h) (y := moO h (nI le) bp (nI nr) (nI wh) (nI tl) (nI ne) (nI nf) (nI (na + 1)) (nI an) (nI tm) (nI cn) (nI cs) (nI bd) (nI lt) (nI (nt + 1)) fx fy) h_41 (gm_ne h_41 h_43 (fun h => by cases h)))
                                have h_89 := (congrFun he_80 _).symm.trans (gm_pass (k := h) (y := moO h (nI le) bp (nI nr) (nI wh) (nI tl) (nI ne) (nI nf) (nI (na + 1)) (nI an) (nI tm) (nI cn) (nI cs) (nI bd) (nI lt) (nI (nt + 1)) fx fy) h_42 (gm_ne h_42 h_43 (fun h => by cases h)))
                                have h_90 := (congrFun he_80 _).symm.trans (gm_up_self (gm_up (gm_up (gm_up M (h + 24) (.inl (ca 0, 512, .inl (iN (va_up aA na cn))))) (h + 25) (.inl (ca 0, 512, .inl (iN (va_up aS na (sq + 1)))))) h (moO h (nI le) bp (nI nr) (nI wh) (nI tl) (nI ne) (nI nf) (nI (na + 1)) (nI an) (nI tm) (nI cn) (nI cs) (nI bd) (nI lt) (nI nt) fx fy)) h (moO h (nI le) bp (nI nr) (nI wh) (nI tl) (nI ne) (nI nf) (nI (na + 1)) (nI an) (nI tm) (nI cn) (nI cs) (nI bd) (nI lt) (nI (nt + 1)) fx fy))
                                refine W.eq (g2 := F0 m 263 ls [.int (-4)]) rfl ?_
                                rw [← hQ]
                                exact gc_iret hx hb hr hlk hP hS d_Mo_unseal_263 ⟨rfl, Or.inr ⟨sq, pr0, f0, (-4), em, lt, (nt + 1), an, (na + 1), (va_up aA na cn), (va_up aS na (sq + 1)), ⟨h0.1, rfl⟩, ⟨rfl, h0.2.1⟩, ⟨rfl, h0.2.2⟩, (Or.inl ⟨rfl, Or.inr (Or.inr ⟨(fun q => q.elim ((un_old (topA_le _ (fun k hk => (hacc k hk).2)) (by omega)).mp c_11) (fun ⟨z, h1, h2, h3⟩ => hno1 z (by omega) ⟨h2, h3⟩)), by omega, rfl, rfl, rfl, (by unfold seF; rw [if_neg (by omega), hp_54, if_pos (by omega)])⟩)⟩), (Or.inr ⟨by decide, rfl, rfl, rfl⟩), h_90, h_88, h_89, h_87, (fun z q0 q1 q2 q3 => (gm_up_ne _ _ q0).trans ((gm_up_ne _ _ q2).trans ((gm_up_ne _ _ q1).trans (rfl)))), rfl⟩⟩
                            · skip
                              refine W.eq (g2 := F0 m 218 ls [.int (nI 0)]) rfl ?_
                              have b_91 : ¬ ta / 256 ≤ 127 := fun q => c_49 ((inr_nI (by omega) (by decide)).mpr q)
                              refine lv_if_ne (tgt := 228) hx hb d_Mo_unseal_218 (by decide) (fun q => absurd q (by decide)) (fun _ => ?_)
                              refine lv_aload_n hx hb d_Mo_unseal_221 rfl (lv_at hl 0 rfl) ?_
                              refine lv_bipush (v := (-5)) hx hb d_Mo_unseal_222 (by decide) ?_
                              refine gc_V (q := (R_Mo, F_Mo, 44)) (n := 1) [.int (-5)] [] hx hb hml hown hts hK hN hX hP hS (c_Mo_stop (-5) h_43) rfl h_43 k_959 k_961 ks_Mo_stop k_10 k_962 (by decide +kernel) ⟨by decide, by decide⟩ rfl hl.1 rfl (Nat.le_of_ble_eq_true rfl) d_Mo_unseal_224 ⟨by decide, by decide⟩ (fun r N1 M_92 H locs hw hP hS => ?_)
                              obtain ⟨rfl, hw⟩ := hw
                              obtain ⟨rfl, rfl⟩ := hw
                              have he_93 : gm_up (gm_up (gm_up (gm_up M (h + 24) (.inl (ca 0, 512, .inl (iN (va_up aA na cn))))) (h + 25) (.inl (ca 0, 512, .inl (iN (va_up aS na (sq + 1)))))) h (moO h (nI le) bp (nI nr) (nI wh) (nI tl) (nI ne) (nI nf) (nI (na + 1)) (nI an) (nI tm) (nI cn) (nI cs) (nI bd) (nI lt) (nI nt) fx fy)) h (moO h (nI le) bp (nI nr) (nI wh) (nI tl) (nI ne) (nI nf) (nI (na + 1)) (nI an) (nI tm) (nI cn) (nI cs) (nI bd) (nI lt) (nI (nt + 1)) fx fy) = gm_up (gm_up (gm_up M (h + 24) (.inl (ca 0, 512, .inl (iN (va_up aA na cn))))) (h + 25) (.inl (ca 0, 512, .inl (iN (va_up aS na (sq + 1)))))) h (moO h (nI le) bp (nI nr) (nI wh) (nI tl) (nI ne) (nI nf) (nI (na + 1)) (nI an) (nI tm) (nI cn) (nI cs) (nI bd) (nI lt) (nI (nt + 1)) fx fy) := gm_up_up _ _ _ _
                              have hP := Eq.mp (congrArg (fun Z => gm_P D cls A N Z H) he_93) hP
                              have h_94 := (congrFun he_93 _).symm.trans (gm_pass (k := h) (y := moO h (nI le) bp (nI nr) (nI wh) (nI tl) (nI ne) (nI nf) (nI (na + 1)) (nI an) (nI tm) (nI cn) (nI cs) (nI bd) (nI lt) (nI (nt + 1)) fx fy) h_34 (gm_ne h_34 h_43 (fun h => by cases h)))
                              have h_95 := (congrFun he_93 _).symm.trans (gm_pass (k := h) (y := moO h (nI le) bp (nI nr) (nI wh) (nI tl) (nI ne) (nI nf) (nI (na + 1)) (nI an) (nI tm) (nI cn) (nI cs) (nI bd) (nI lt) (nI (nt + 1)) fx fy) h_35 (gm_ne h_35 h_43 (fun h => by cases h)))
                              have h_96 := (congrFun he_93 _).symm.trans (gm_pass (k := h) (y := moO h (nI le) bp (nI nr) (nI wh) (nI tl) (nI ne) (nI nf) (nI (na + 1)) (nI an) (nI tm) (nI cn) (nI cs) (nI bd) (nI lt) (nI (nt + 1)) fx fy) h_36 (gm_ne h_36 h_43 (fun h => by cases h)))
                              have h_97 := (congrFun he_93 _).symm.trans (gm_pass (k := h) (y := moO h (nI le) bp (nI nr) (nI wh) (nI tl) (nI ne) (nI nf) (nI (na + 1)) (nI an) (nI tm) (nI cn) (nI cs) (nI bd) (nI lt) (nI (nt + 1)) fx fy) h_37 (gm_ne h_37 h_43 (fun h => by cases h)))
                              have h_98 := (congrFun he_93 _).symm.trans (gm_pass (k := h) (y := moO h (nI le) bp (nI nr) (nI wh) (nI tl) (nI ne) (nI nf) (nI (na + 1)) (nI an) (nI tm) (nI cn) (nI cs) (nI bd) (nI lt) (nI (nt + 1)) fx fy) h_38 (gm_ne h_38 h_43 (fun h => by cases h)))
                              have h_99 := (congrFun he_93 _).symm.trans (gm_pass (k := h) (y := moO h (nI le) bp (nI nr) (nI wh) (nI tl) (nI ne) (nI nf) (nI (na + 1)) (nI an) (nI tm) (nI cn) (nI cs) (nI bd) (nI lt) (nI (nt + 1)) fx fy) h_39 (gm_ne h_39 h_43 (fun h => by cases h)))
                              have h_100 := (congrFun he_93 _).symm.trans (gm_pass (k := h) (y := moO h (nI le) bp (nI nr) (nI wh) (nI tl) (nI ne) (nI nf) (nI (na + 1)) (nI an) (nI tm) (nI cn) (nI cs) (nI bd) (nI lt) (nI (nt + 1)) fx fy) h_40 (gm_ne h_40 h_43 (fun h => by cases h)))
                              have h_101 := (congrFun he_93 _).symm.trans (gm_pass (k := h) (y := moO h (nI le) bp (nI nr) (nI wh) (nI tl) (nI ne) (nI nf) (nI (na + 1)) (nI an) (nI tm) (nI cn) (nI cs) (nI bd) (nI lt) (nI (nt + 1)) fx fy) h_41 (gm_ne h_41 h_43 (fun h => by cases h)))
                              have h_102 := (congrFun he_93 _).symm.trans (gm_pass (k := h) (y := moO h (nI le) bp (nI nr) (nI wh) (nI tl) (nI ne) (nI nf) (nI (na + 1)) (nI an) (nI tm) (nI cn) (nI cs) (nI bd) (nI lt) (nI (nt + 1)) fx fy) h_42 (gm_ne h_42 h_43 (fun h => by cases h)))
                              have h_103 := (congrFun he_93 _).symm.trans (gm_up_self (gm_up (gm_up (gm_up M (h + 24) (.inl (ca 0, 512, .inl (iN (va_up aA na cn))))) (h + 25) (.inl (ca 0, 512, .inl (iN (va_up aS na (sq + 1)))))) h (moO h (nI le) bp (nI nr) (nI wh) (nI tl) (nI ne) (nI nf) (nI (na + 1)) (nI an) (nI tm) (nI cn) (nI cs) (nI bd) (nI lt) (nI nt) fx fy)) h (moO h (nI le) bp (nI nr) (nI wh) (nI tl) (nI ne) (nI nf) (nI (na + 1)) (nI an) (nI tm) (nI cn) (nI cs) (nI bd) (nI lt) (nI (nt + 1)) fx fy))
                              refine W.eq (g2 := F0 m 227 ls [.int (-5)]) rfl ?_
                              rw [← hQ]
                              exact gc_iret hx hb hr hlk hP hS d_Mo_unseal_227 ⟨rfl, Or.inr ⟨sq, pr0, f0, (-5), em, lt, (nt + 1), an, (na + 1), (va_up aA na cn), (va_up aS na (sq + 1)), ⟨h0.1, rfl⟩, ⟨rfl, h0.2.1⟩, ⟨rfl, h0.2.2⟩, (Or.inl ⟨rfl, Or.inr (Or.inr ⟨(fun q => q.elim ((un_old (topA_le _ (fun k hk => (hacc k hk).2)) (by omega)).mp c_11) (fun ⟨z, h1, h2, h3⟩ => hno1 z (by omega) ⟨h2, h3⟩)), by omega, rfl, rfl, rfl, (by unfold seF; rw [if_pos (by omega)])⟩)⟩), (Or.inr ⟨by decide, rfl, rfl, rfl⟩), h_103, h_101, h_102, h_100, (fun z q0 q1 q2 q3 => (gm_up_ne _ _ q0).trans ((gm_up_ne _ _ q2).trans ((gm_up_ne _ _ q1).trans (rfl)))), rfl⟩⟩
                          · skip
                            refine W.eq (g2 := F0 m 206 ls [.int (nI 0)]) rfl ?_
                            refine lv_if_eq (tgt := 221) hx hb d_Mo_unseal_206 (by decide) (fun _ => ?_) (fun q => absurd q (by decide))
                            refine lv_aload_n hx hb d_Mo_unseal_221 rfl (lv_at hl 0 rfl) ?_
                            refine lv_bipush (v := (-5)) hx hb d_Mo_unseal_222 (by decide) ?_
                            refine gc_V (q := (R_Mo, F_Mo, 44)) (n := 1) [.int (-5)] [] hx hb hml hown hts hK hN hX hP hS (c_Mo_stop (-5) h_43) rfl h_43 k_959 k_961 ks_Mo_stop k_10 k_962 (by decide +kernel) ⟨by decide, by decide⟩ rfl hl.1 rfl (Nat.le_of_ble_eq_true rfl) d_Mo_unseal_224 ⟨by decide, by decide⟩ (fun r N1 M_104 H locs hw hP hS => ?_)
                            obtain ⟨rfl, hw⟩ := hw
                            obtain ⟨rfl, rfl⟩ := hw
                            have he_105 : gm_up (gm_up (gm_up (gm_up M (h + 24) (.inl (ca 0, 512, .inl (iN (va_up aA na cn))))) (h + 25) (.inl (ca 0, 512, .inl (iN (va_up aS na (sq + 1)))))) h (moO h (nI le) bp (nI nr) (nI wh) (nI tl) (nI ne) (nI nf) (nI (na + 1)) (nI an) (nI tm) (nI cn) (nI cs) (nI bd) (nI lt) (nI nt) fx fy)) h (moO h (nI le) bp (nI nr) (nI wh) (nI tl) (nI ne) (nI nf) (nI (na + 1)) (nI an) (nI tm) (nI cn) (nI cs) (nI bd) (nI lt) (nI (nt + 1)) fx fy) = gm_up (gm_up (gm_up M (h + 24) (.inl (ca 0, 512, .inl (iN (va_up aA na cn))))) (h + 25) (.inl (ca 0, 512, .inl (iN (va_up aS na (sq + 1)))))) h (moO h (nI le) bp (nI nr) (nI wh) (nI tl) (nI ne) (nI nf) (nI (na + 1)) (nI an) (nI tm) (nI cn) (nI cs) (nI bd) (nI lt) (nI (nt + 1)) fx fy) := gm_up_up _ _ _ _
                            have hP := Eq.mp (congrArg (fun Z => gm_P D cls A N Z H) he_105) hP
                            have h_106 := (congrFun he_105 _).symm.trans (gm_pass (k := h) (y := moO h (nI le) bp (nI nr) (nI wh) (nI tl) (nI ne) (nI nf) (nI (na + 1)) (nI an) (nI tm) (nI cn) (nI cs) (nI bd) (nI lt) (nI (nt + 1)) fx fy) h_34 (gm_ne h_34 h_43 (fun h => by cases h)))
                            have h_107 := (congrFun he_105 _).symm.trans (gm_pass (k := h) (y := moO h (nI le) bp (nI nr) (nI wh) (nI tl) (nI ne) (nI nf) (nI (na + 1)) (nI an) (nI tm) (nI cn) (nI cs) (nI bd) (nI lt) (nI (nt + 1)) fx fy) h_35 (gm_ne h_35 h_43 (fun h => by cases h)))
                            have h_108 := (congrFun he_105 _).symm.trans (gm_pass (k := h) (y := moO h (nI le) bp (nI nr) (nI wh) (nI tl) (nI ne) (nI nf) (nI (na + 1)) (nI an) (nI tm) (nI cn) (nI cs) (nI bd) (nI lt) (nI (nt + 1)) fx fy) h_36 (gm_ne h_36 h_43 (fun h => by cases h)))
                            have h_109 := (congrFun he_105 _).symm.trans (gm_pass (k := h) (y := moO h (nI le) bp (nI nr) (nI wh) (nI tl) (nI ne) (nI nf) (nI (na + 1)) (nI an) (nI tm) (nI cn) (nI cs) (nI bd) (nI lt) (nI (nt + 1)) fx fy) h_37 (gm_ne h_37 h_43 (fun h => by cases h)))
                            have h_110 := (congrFun he_105 _).symm.trans (gm_pass (k := h) (y := moO h (nI le) bp (nI nr) (nI wh) (nI tl) (nI ne) (nI nf) (nI (na + 1)) (nI an) (nI tm) (nI cn) (nI cs) (nI bd) (nI lt) (nI (nt + 1)) fx fy) h_38 (gm_ne h_38 h_43 (fun h => by cases h)))
                            have h_111 := (congrFun he_105 _).symm.trans (gm_pass (k := h) (y := moO h (nI le) bp (nI nr) (nI wh) (nI tl) (nI ne) (nI nf) (nI (na + 1)) (nI an) (nI tm) (nI cn) (nI cs) (nI bd) (nI lt) (nI (nt + 1)) fx fy) h_39 (gm_ne h_39 h_43 (fun h => by cases h)))
                            have h_112 := (congrFun he_105 _).symm.trans (gm_pass (k := h) (y := moO h (nI le) bp (nI nr) (nI wh) (nI tl) (nI ne) (nI nf) (nI (na + 1)) (nI an) (nI tm) (nI cn) (nI cs) (nI bd) (nI lt) (nI (nt + 1)) fx fy) h_40 (gm_ne h_40 h_43 (fun h => by cases h)))
                            have h_113 := (congrFun he_105 _).symm.trans (gm_pass (k := h) (y := moO h (nI le) bp (nI nr) (nI wh) (nI tl) (nI ne) (nI nf) (nI (na + 1)) (nI an) (nI tm) (nI cn) (nI cs) (nI bd) (nI lt) (nI (nt + 1)) fx fy) h_41 (gm_ne h_41 h_43 (fun h => by cases h)))
                            have h_114 := (congrFun he_105 _).symm.trans (gm_pass (k := h) (y := moO h (nI le) bp (nI nr) (nI wh) (nI tl) (nI ne) (nI nf) (nI (na + 1)) (nI an) (nI tm) (nI cn) (nI cs) (nI bd) (nI lt) (nI (nt + 1)) fx fy) h_42 (gm_ne h_42 h_43 (fun h => by cases h)))
                            have h_115 := (congrFun he_105 _).symm.trans (gm_up_self (gm_up (gm_up (gm_up M (h + 24) (.inl (ca 0, 512, .inl (iN (va_up aA na cn))))) (h + 25) (.inl (ca 0, 512, .inl (iN (va_up aS na (sq + 1)))))) h (moO h (nI le) bp (nI nr) (nI wh) (nI tl) (nI ne) (nI nf) (nI (na + 1)) (nI an) (nI tm) (nI cn) (nI cs) (nI bd) (nI lt) (nI nt) fx fy)) h (moO h (nI le) bp (nI nr) (nI wh) (nI tl) (nI ne) (nI nf) (nI (na + 1)) (nI an) (nI tm) (nI cn) (nI cs) (nI bd) (nI lt) (nI (nt + 1)) fx fy))
                            refine W.eq (g2 := F0 m 227 ls [.int (-5)]) rfl ?_
                            rw [← hQ]
                            exact gc_iret hx hb hr hlk hP hS d_Mo_unseal_227 ⟨rfl, Or.inr ⟨sq, pr0, f0, (-5), em, lt, (nt + 1), an, (na + 1), (va_up aA na cn), (va_up aS na (sq + 1)), ⟨h0.1, rfl⟩, ⟨rfl, h0.2.1⟩, ⟨rfl, h0.2.2⟩, (Or.inl ⟨rfl, Or.inr (Or.inr ⟨(fun q => q.elim ((un_old (topA_le _ (fun k hk => (hacc k hk).2)) (by omega)).mp c_11) (fun ⟨z, h1, h2, h3⟩ => hno1 z (by omega) ⟨h2, h3⟩)), by omega, rfl, rfl, rfl, (by unfold seF; rw [if_pos (by omega)])⟩)⟩), (Or.inr ⟨by decide, rfl, rfl, rfl⟩), h_115, h_113, h_114, h_112, (fun z q0 q1 q2 q3 => (gm_up_ne _ _ q0).trans ((gm_up_ne _ _ q2).trans ((gm_up_ne _ _ q1).trans (rfl)))), rfl⟩⟩
                        · skip
                          refine lv_aload_n hx hb d_Mo_unseal_160 rfl (lv_at hl 0 rfl) ?_
                          refine lv_bipush (v := (-9)) hx hb d_Mo_unseal_161 (by decide) ?_
                          refine gc_V (q := (R_Mo, F_Mo, 44)) (n := 1) [.int (-9)] [] hx hb hml hown hts hK hN hX hP hS (c_Mo_stop (-9) eh) rfl eh k_959 k_961 ks_Mo_stop k_10 k_962 (by decide +kernel) ⟨by decide, by decide⟩ rfl hl.1 rfl (Nat.le_of_ble_eq_true rfl) d_Mo_unseal_163 ⟨by decide, by decide⟩ (fun r N1 M_116 H locs hw hP hS => ?_)
                          obtain ⟨rfl, hw⟩ := hw
                          obtain ⟨rfl, rfl⟩ := hw
                          have hP : gm_P D cls A N (gm_up M h (moO h (nI le) bp (nI nr) (nI wh) (nI tl) (nI ne) (nI nf) (nI na) (nI an) (nI tm) (nI cn) (nI cs) (nI bd) (nI lt) (nI (nt + 1)) fx fy)) H := hP
                          have h_117 := gm_pass (k := h) (y := moO h (nI le) bp (nI nr) (nI wh) (nI tl) (nI ne) (nI nf) (nI na) (nI an) (nI tm) (nI cn) (nI cs) (nI bd) (nI lt) (nI (nt + 1)) fx fy) m2 (gm_ne m2 eh (fun h => by cases h))
                          have h_118 := gm_pass (k := h) (y := moO h (nI le) bp (nI nr) (nI wh) (nI tl) (nI ne) (nI nf) (nI na) (nI an) (nI tm) (nI cn) (nI cs) (nI bd) (nI lt) (nI (nt + 1)) fx fy) m3 (gm_ne m3 eh (fun h => by cases h))
                          have h_119 := gm_pass (k := h) (y := moO h (nI le) bp (nI nr) (nI wh) (nI tl) (nI ne) (nI nf) (nI na) (nI an) (nI tm) (nI cn) (nI cs) (nI bd) (nI lt) (nI (nt + 1)) fx fy) m4 (gm_ne m4 eh (fun h => by cases h))
                          have h_120 := gm_pass (k := h) (y := moO h (nI le) bp (nI nr) (nI wh) (nI tl) (nI ne) (nI nf) (nI na) (nI an) (nI tm) (nI cn) (nI cs) (nI bd) (nI lt) (nI (nt + 1)) fx fy) m5 (gm_ne m5 eh (fun h => by cases h))
                          have h_121 := gm_pass (k := h) (y := moO h (nI le) bp (nI nr) (nI wh) (nI tl) (nI ne) (nI nf) (nI na) (nI an) (nI tm) (nI cn) (nI cs) (nI bd) (nI lt) (nI (nt + 1)) fx fy) m6 (gm_ne m6 eh (fun h => by cases h))
                          have h_122 := gm_pass (k := h) (y := moO h (nI le) bp (nI nr) (nI wh) (nI tl) (nI ne) (nI nf) (nI na) (nI an) (nI tm) (nI cn) (nI cs) (nI bd) (nI lt) (nI (nt + 1)) fx fy) m24 (gm_ne m24 eh (fun h => by cases h))
                          have h_123 := gm_pass (k := h) (y := moO h (nI le) bp (nI nr) (nI wh) (nI tl) (nI ne) (nI nf) (nI na) (nI an) (nI tm) (nI cn) (nI cs) (nI bd) (nI lt) (nI (nt + 1)) fx fy) m25 (gm_ne m25 eh (fun h => by cases h))
                          have h_124 := gm_pass (k := h) (y := moO h (nI le) bp (nI nr) (nI wh) (nI tl) (nI ne) (nI nf) (nI na) (nI an) (nI tm) (nI cn) (nI cs) (nI bd) (nI lt) (nI (nt + 1)) fx fy) m26 (gm_ne m26 eh (fun h => by cases h))
                          have h_125 := gm_pass (k := h) (y := moO h (nI le) bp (nI nr) (nI wh) (nI tl) (nI ne) (nI nf) (nI na) (nI an) (nI tm) (nI cn) (nI cs) (nI bd) (nI lt) (nI (nt + 1)) fx fy) m27 (gm_ne m27 eh (fun h => by cases h))
                          have h_126 := gm_up_self M h (moO h (nI le) bp (nI nr) (nI wh) (nI tl) (nI ne) (nI nf) (nI na) (nI an) (nI tm) (nI cn) (nI cs) (nI bd) (nI lt) (nI (nt + 1)) fx fy)
                          refine W.eq (g2 := F0 m 166 ls [.int (-9)]) rfl ?_
                          rw [← hQ]
                          exact gc_iret hx hb hr hlk hP hS d_Mo_unseal_166 ⟨rfl, Or.inr ⟨sq, pr0, f0, (-9), em, lt, (nt + 1), an, na, aA, aS, ⟨h0.1, rfl⟩, ⟨rfl, h0.2.1⟩, ⟨rfl, h0.2.2⟩, (Or.inl ⟨rfl, Or.inr (Or.inl ⟨(fun q => q.elim ((un_old (topA_le _ (fun k hk => (hacc k hk).2)) (by omega)).mp c_11) (fun ⟨z, h1, h2, h3⟩ => hno1 z (by omega) ⟨h2, h3⟩)), by omega, rfl, rfl, rfl, rfl, rfl⟩)⟩), (Or.inr ⟨by decide, rfl, rfl, rfl⟩), h_126, h_122, h_123, h_125, (fun z q0 q1 q2 q3 => (gm_up_ne _ _ q0).trans (rfl)), rfl⟩⟩
                      · skip
                        refine lv_aload_n hx hb d_Mo_unseal_121 rfl (lv_at hl 0 rfl) ?_
                        refine gm_get (C := R_Mo) (T := F_Mo) (n := 44) hx hb htl i_Mo hown hK hP eh rfl 30 (by decide) (htl _ k_773) (fun _ h => h) rfl d_Mo_unseal_122 ?_
                        refine lv_iload hx hb d_Mo_unseal_125 (lv_at hl 5 rfl) ?_
                        refine gz_iald hx hb hK hP 0 m24 rfl (by omega) (by omega) d_Mo_unseal_127 ?_
                        have hab_ := hacc i (by omega)
                        refine lv_iload_n hx hb d_Mo_unseal_128 rfl (lv_at hl 1 rfl) ?_
                        refine ln_ne (tgt := 150) hx hb d_Mo_unseal_129 (by decide) (by omega) (by omega) (fun c_127 => ?_) (fun c_127 => ?_)
                        · skip
                          refine lv_iinc (v := nI (i + 1)) (lv' := [(7, .int (nI (i + 1))), (0, .ref h), (1, .int (nI cn)), (2, .int (nI (sq + 1))), (3, .int (nI au)), (4, .int (nI pr0))]) hx hb d_Mo_unseal_150 hl (k := 5) rfl (nI_1 i) (by decide) rfl (fun ls hl => ?_)
                          refine lv_goto (tgt := 112) hx hb d_Mo_unseal_153 (by decide) ?_
                          exact ih_112 (i + 1) ls _ _ (by omega) (fun z hz => by by_cases q : z = i; subst q; omega; exact hno1 z (by omega)) (by omega) hP hS (lv_sub hl [1, 2, 3, 4, 5, 0] rfl)
                        · skip
                          refine lv_aload_n hx hb d_Mo_unseal_132 rfl (lv_at hl 0 rfl) ?_
                          refine gm_get (C := R_Mo) (T := F_Mo) (n := 44) hx hb htl i_Mo hown hK hP eh rfl 31 (by decide) (htl _ k_774) (fun _ h => h) rfl d_Mo_unseal_133 ?_
                          refine lv_iload hx hb d_Mo_unseal_136 (lv_at hl 5 rfl) ?_
                          refine gz_iald hx hb hK hP 0 m25 rfl (by omega) (by omega) d_Mo_unseal_138 ?_
                          have has_ := hacc i (by omega)
                          refine lv_iload_n hx hb d_Mo_unseal_139 rfl (lv_at hl 2 rfl) ?_
                          refine ln_ne (tgt := 150) hx hb d_Mo_unseal_140 (by decide) (by omega) (by omega) (fun c_128 => ?_) (fun c_128 => ?_)
                          · skip
                            refine lv_iinc (v := nI (i + 1)) (lv' := [(7, .int (nI (i + 1))), (0, .ref h), (1, .int (nI cn)), (2, .int (nI (sq + 1))), (3, .int (nI au)), (4, .int (nI pr0))]) hx hb d_Mo_unseal_150 hl (k := 5) rfl (nI_1 i) (by decide) rfl (fun ls hl => ?_)
                            refine lv_goto (tgt := 112) hx hb d_Mo_unseal_153 (by decide) ?_
                            exact ih_112 (i + 1) ls _ _ (by omega) (fun z hz => by by_cases q : z = i; subst q; omega; exact hno1 z (by omega)) (by omega) hP hS (lv_sub hl [1, 2, 3, 4, 5, 0] rfl)
                          · skip
                            refine lv_aload_n hx hb d_Mo_unseal_143 rfl (lv_at hl 0 rfl) ?_
                            refine lv_bipush (v := (-8)) hx hb d_Mo_unseal_144 (by decide) ?_
                            refine gc_V (q := (R_Mo, F_Mo, 44)) (n := 1) [.int (-8)] [] hx hb hml hown hts hK hN hX hP hS (c_Mo_stop (-8) eh) rfl eh k_959 k_961 ks_Mo_stop k_10 k_962 (by decide +kernel) ⟨by decide, by decide⟩ rfl hl.1 rfl (Nat.le_of_ble_eq_true rfl) d_Mo_unseal_146 ⟨by decide, by decide⟩ (fun r N1 M_129 H locs hw hP hS => ?_)
                            obtain ⟨rfl, hw⟩ := hw
                            obtain ⟨rfl, rfl⟩ := hw
                            have hP : gm_P D cls A N (gm_up M h (moO h (nI le) bp (nI nr) (nI wh) (nI tl) (nI ne) (nI nf) (nI na) (nI an) (nI tm) (nI cn) (nI cs) (nI bd) (nI lt) (nI (nt + 1)) fx fy)) H := hP
                            have h_130 := gm_pass (k := h) (y := moO h (nI le) bp (nI nr) (nI wh) (nI tl) (nI ne) (nI nf) (nI na) (nI an) (nI tm) (nI cn) (nI cs) (nI bd) (nI lt) (nI (nt + 1)) fx fy) m2 (gm_ne m2 eh (fun h => by cases h))
                            have h_131 := gm_pass (k := h) (y := moO h (nI le) bp (nI nr) (nI wh) (nI tl) (nI ne) (nI nf) (nI na) (nI an) (nI tm) (nI cn) (nI cs) (nI bd) (nI lt) (nI (nt + 1)) fx fy) m3 (gm_ne m3 eh (fun h => by cases h))
                            have h_132 := gm_pass (k := h) (y := moO h (nI le) bp (nI nr) (nI wh) (nI tl) (nI ne) (nI nf) (nI na) (nI an) (nI tm) (nI cn) (nI cs) (nI bd) (nI lt) (nI (nt + 1)) fx fy) m4 (gm_ne m4 eh (fun h => by cases h))
                            have h_133 := gm_pass (k := h) (y := moO h (nI le) bp (nI nr) (nI wh) (nI tl) (nI ne) (nI nf) (nI na) (nI an) (nI tm) (nI cn) (nI cs) (nI bd) (nI lt) (nI (nt + 1)) fx fy) m5 (gm_ne m5 eh (fun h => by cases h))
                            have h_134 := gm_pass (k := h) (y := moO h (nI le) bp (nI nr) (nI wh) (nI tl) (nI ne) (nI nf) (nI na) (nI an) (nI tm) (nI cn) (nI cs) (nI bd) (nI lt) (nI (nt + 1)) fx fy) m6 (gm_ne m6 eh (fun h => by cases h))
                            have h_135 := gm_pass (k := h) (y := moO h (nI le) bp (nI nr) (nI wh) (nI tl) (nI ne) (nI nf) (nI na) (nI an) (nI tm) (nI cn) (nI cs) (nI bd) (nI lt) (nI (nt + 1)) fx fy) m24 (gm_ne m24 eh (fun h => by cases h))
                            have h_136 := gm_pass (k := h) (y := moO h (nI le) bp (nI nr) (nI wh) (nI tl) (nI ne) (nI nf) (nI na) (nI an) (nI tm) (nI cn) (nI cs) (nI bd) (nI lt) (nI (nt + 1)) fx fy) m25 (gm_ne m25 eh (fun h => by cases h))
                            have h_137 := gm_pass (k := h) (y := moO h (nI le) bp (nI nr) (nI wh) (nI tl) (nI ne) (nI nf) (nI na) (nI an) (nI tm) (nI cn) (nI cs) (nI bd) (nI lt) (nI (nt + 1)) fx fy) m26 (gm_ne m26 eh (fun h => by cases h))
                            have h_138 := gm_pass (k := h) (y := moO h (nI le) bp (nI nr) (nI wh) (nI tl) (nI ne) (nI nf) (nI na) (nI an) (nI tm) (nI cn) (nI cs) (nI bd) (nI lt) (nI (nt + 1)) fx fy) m27 (gm_ne m27 eh (fun h => by cases h))
                            have h_139 := gm_up_self M h (moO h (nI le) bp (nI nr) (nI wh) (nI tl) (nI ne) (nI nf) (nI na) (nI an) (nI tm) (nI cn) (nI cs) (nI bd) (nI lt) (nI (nt + 1)) fx fy)
                            refine W.eq (g2 := F0 m 149 ls [.int (-8)]) rfl ?_
                            rw [← hQ]
                            exact gc_iret hx hb hr hlk hP hS d_Mo_unseal_149 ⟨rfl, Or.inr ⟨sq, pr0, f0, (-8), em, lt, (nt + 1), an, na, aA, aS, ⟨h0.1, rfl⟩, ⟨rfl, h0.2.1⟩, ⟨rfl, h0.2.2⟩, (Or.inl ⟨rfl, Or.inl ⟨Or.inr ⟨i, by omega, by omega, by omega⟩, rfl, rfl, rfl, rfl, rfl⟩⟩), (Or.inr ⟨by decide, rfl, rfl, rfl⟩), h_139, h_135, h_136, h_138, (fun z q0 q1 q2 q3 => (gm_up_ne _ _ q0).trans (rfl)), rfl⟩⟩
                  exact loop_112 (_ + 1) 0 ls _ _ (Nat.zero_le _) (fun z hz => absurd hz (Nat.not_lt_zero _)) (Nat.lt_succ_self _) hP hS (lv_sub hl [2, 3, 4, 5, 6, 0] rfl)
                · skip
                  refine lv_aload_n hx hb d_Mo_unseal_102 rfl (lv_at hl 1 rfl) ?_
                  refine lv_bipush (v := (-8)) hx hb d_Mo_unseal_103 (by decide) ?_
                  refine gc_V (q := (R_Mo, F_Mo, 44)) (n := 1) [.int (-8)] [] hx hb hml hown hts hK hN hX hP hS (c_Mo_stop (-8) eh) rfl eh k_959 k_961 ks_Mo_stop k_10 k_962 (by decide +kernel) ⟨by decide, by decide⟩ rfl hl.1 rfl (Nat.le_of_ble_eq_true rfl) d_Mo_unseal_105 ⟨by decide, by decide⟩ (fun r N1 M_140 H locs hw hP hS => ?_)
                  obtain ⟨rfl, hw⟩ := hw
                  obtain ⟨rfl, rfl⟩ := hw
                  have hP : gm_P D cls A N (gm_up M h (moO h (nI le) bp (nI nr) (nI wh) (nI tl) (nI ne) (nI nf) (nI na) (nI an) (nI tm) (nI cn) (nI cs) (nI bd) (nI lt) (nI (nt + 1)) fx fy)) H := hP
                  have h_141 := gm_pass (k := h) (y := moO h (nI le) bp (nI nr) (nI wh) (nI tl) (nI ne) (nI nf) (nI na) (nI an) (nI tm) (nI cn) (nI cs) (nI bd) (nI lt) (nI (nt + 1)) fx fy) m2 (gm_ne m2 eh (fun h => by cases h))
                  have h_142 := gm_pass (k := h) (y := moO h (nI le) bp (nI nr) (nI wh) (nI tl) (nI ne) (nI nf) (nI na) (nI an) (nI tm) (nI cn) (nI cs) (nI bd) (nI lt) (nI (nt + 1)) fx fy) m3 (gm_ne m3 eh (fun h => by cases h))
                  have h_143 := gm_pass (k := h) (y := moO h (nI le) bp (nI nr) (nI wh) (nI tl) (nI ne) (nI nf) (nI na) (nI an) (nI tm) (nI cn) (nI cs) (nI bd) (nI lt) (nI (nt + 1)) fx fy) m4 (gm_ne m4 eh (fun h => by cases h))
                  have h_144 := gm_pass (k := h) (y := moO h (nI le) bp (nI nr) (nI wh) (nI tl) (nI ne) (nI nf) (nI na) (nI an) (nI tm) (nI cn) (nI cs) (nI bd) (nI lt) (nI (nt + 1)) fx fy) m5 (gm_ne m5 eh (fun h => by cases h))
                  have h_145 := gm_pass (k := h) (y := moO h (nI le) bp (nI nr) (nI wh) (nI tl) (nI ne) (nI nf) (nI na) (nI an) (nI tm) (nI cn) (nI cs) (nI bd) (nI lt) (nI (nt + 1)) fx fy) m6 (gm_ne m6 eh (fun h => by cases h))
                  have h_146 := gm_pass (k := h) (y := moO h (nI le) bp (nI nr) (nI wh) (nI tl) (nI ne) (nI nf) (nI na) (nI an) (nI tm) (nI cn) (nI cs) (nI bd) (nI lt) (nI (nt + 1)) fx fy) m24 (gm_ne m24 eh (fun h => by cases h))
                  have h_147 := gm_pass (k := h) (y := moO h (nI le) bp (nI nr) (nI wh) (nI tl) (nI ne) (nI nf) (nI na) (nI an) (nI tm) (nI cn) (nI cs) (nI bd) (nI lt) (nI (nt + 1)) fx fy) m25 (gm_ne m25 eh (fun h => by cases h))
                  have h_148 := gm_pass (k := h) (y := moO h (nI le) bp (nI nr) (nI wh) (nI tl) (nI ne) (nI nf) (nI na) (nI an) (nI tm) (nI cn) (nI cs) (nI bd) (nI lt) (nI (nt + 1)) fx fy) m26 (gm_ne m26 eh (fun h => by cases h))
                  have h_149 := gm_pass (k := h) (y := moO h (nI le) bp (nI nr) (nI wh) (nI tl) (nI ne) (nI nf) (nI na) (nI an) (nI tm) (nI cn) (nI cs) (nI bd) (nI lt) (nI (nt + 1)) fx fy) m27 (gm_ne m27 eh (fun h => by cases h))
                  have h_150 := gm_up_self M h (moO h (nI le) bp (nI nr) (nI wh) (nI tl) (nI ne) (nI nf) (nI na) (nI an) (nI tm) (nI cn) (nI cs) (nI bd) (nI lt) (nI (nt + 1)) fx fy)
                  refine W.eq (g2 := F0 m 108 ls [.int (-8)]) rfl ?_
                  rw [← hQ]
                  exact gc_iret hx hb hr hlk hP hS d_Mo_unseal_108 ⟨rfl, Or.inr ⟨sq, pr0, f0, (-8), em, lt, (nt + 1), an, na, aA, aS, ⟨h0.1, rfl⟩, ⟨rfl, h0.2.1⟩, ⟨rfl, h0.2.2⟩, (Or.inl ⟨rfl, Or.inl ⟨Or.inl (Classical.byContradiction (fun q => c_11 ((un_old (topA_le _ (fun k hk => (hacc k hk).2)) (by omega)).mpr q))), rfl, rfl, rfl, rfl, rfl⟩⟩), (Or.inr ⟨by decide, rfl, rfl, rfl⟩), h_150, h_146, h_147, h_149, (fun z q0 q1 q2 q3 => (gm_up_ne _ _ q0).trans (rfl)), rfl⟩⟩
              · omega
            · skip
              refine lv_iload_n hx hb d_Mo_unseal_42 rfl (lv_at hl 1 rfl) ?_
              refine lv_aload_n hx hb d_Mo_unseal_43 rfl (lv_at hl 0 rfl) ?_
              refine gm_get (C := R_Mo) (T := F_Mo) (n := 44) hx hb htl i_Mo hown hK hP eh rfl 37 (by decide) (htl _ k_780) (fun _ h => h) rfl d_Mo_unseal_44 ?_
              refine lv_iconst (v := nI 1) hx hb d_Mo_unseal_47 (by decide) ?_
              refine lv_isub hx hb d_Mo_unseal_48 ?_
              rw [show (nI cn) - (nI 1) = nI (cn - 1) from pk_sub (by omega)]
              refine ln_ne (tgt := 67) hx hb d_Mo_unseal_49 (by decide) (by omega) (by omega) (fun c_151 => ?_) (fun c_151 => ?_)
              · skip
                refine lv_iconst (v := nI 0) hx hb d_Mo_unseal_67 (by decide) ?_
                refine lv_istore (lv' := [(6, .int (nI 0)), (0, .ref h), (1, .int (nI cn)), (2, .int (nI (sq + 1))), (3, .int (nI au)), (4, .int (nI pr0)), (5, .int (nI f0))]) hx hb d_Mo_unseal_68 hl (by decide) rfl (fun ls hl => ?_)
                refine lv_iload_n hx hb d_Mo_unseal_70 rfl (lv_at hl 2 rfl) ?_
                refine lv_aload_n hx hb d_Mo_unseal_71 rfl (lv_at hl 1 rfl) ?_
                refine gm_get (C := R_Mo) (T := F_Mo) (n := 44) hx hb htl i_Mo hown hK hP eh rfl 37 (by decide) (htl _ k_780) (fun _ h => h) rfl d_Mo_unseal_72 ?_
                refine ln_eq (tgt := 90) hx hb d_Mo_unseal_75 (by decide) (by omega) (by omega) (fun c_152 => ?_) (fun c_152 => ?_)
                · skip
                  refine lv_iload_n hx hb d_Mo_unseal_90 rfl (lv_at hl 3 rfl) ?_
                  refine lv_aload_n hx hb d_Mo_unseal_91 rfl (lv_at hl 1 rfl) ?_
                  refine lv_iload_n hx hb d_Mo_unseal_92 rfl (lv_at hl 2 rfl) ?_
                  refine gc_V (q := (R_Mo, F_Mo, 44)) (n := 1) [.int (nI cn)] [.int (nI (sq + 1))] hx hb hml hown hts hK hN hX hP hS (c_Mo_top eh m24 m25 hacc hna (by omega)) rfl eh k_1006 k_1008 ks_Mo_top k_10 k_1009 (by decide +kernel) ⟨by decide, by decide⟩ rfl hl.1 rfl (Nat.le_of_ble_eq_true rfl) d_Mo_unseal_93 ⟨by decide, by decide⟩ (fun r N1 M_153 H locs hw hP hS => ?_)
                  obtain ⟨rfl, hw⟩ := hw
                  obtain ⟨rfl, rfl⟩ := hw
                  refine W.eq (g2 := F0 m 96 ls [.int (nI (topA aA aS cn na)), .int (nI (sq + 1))]) rfl ?_
                  refine lv_bipush (v := nI 32) hx hb d_Mo_unseal_96 (by decide) ?_
                  refine lv_isub hx hb d_Mo_unseal_98 ?_
                  refine lv_icmp_gt (tgt := 109) hx hb d_Mo_unseal_99 (by decide) (fun c_154 => ?_) (fun c_154 => ?_)
                  · skip
                    refine lv_iconst (v := nI 0) hx hb d_Mo_unseal_109 (by decide) ?_
                    refine lv_istore (lv' := [(7, .int (nI 0)), (6, .int (nI 0)), (0, .ref h), (1, .int (nI cn)), (2, .int (nI (sq + 1))), (3, .int (nI au)), (4, .int (nI pr0)), (5, .int (nI f0))]) hx hb d_Mo_unseal_110 hl (by decide) rfl (fun ls hl => ?_)
                    have loop_112 : ∀ (fu : Nat) (i : Nat) (ls : Array Slot) (H : Heap) (locs : List Loc), (i ≤ na) → (∀ z, z < i → ¬ (aA z = cn ∧ aS z = sq + 1)) → (na - i) < fu → gm_P D cls A N M H → va_S A s.heap H locs → lv_has ls 8 [(0, .ref h), (1, .int (nI cn)), (2, .int (nI (sq + 1))), (3, .int (nI au)), (4, .int (nI pr0)), (7, .int (nI i))] → W p l e ({ frames := 2, cells := 0, slots := 0, locals := 48 }) s m ([.ref h, .int (nI cn), .int (nI (sq + 1)), .int (nI au), .int (nI pr0), .int (nI f0)] : List Value).toArray below meth c H locs (0) (0) Q (F0 m 112 ls []) := by
                      intro fu
                      induction fu with
                      | zero => intro i ls H locs hi hno1 hk; exact absurd hk (Nat.not_lt_zero _)
                      | succ fu ih_112 =>
                        intro i ls H locs hi hno1 hk hP hS hl
                        refine lv_iload hx hb d_Mo_unseal_112 (lv_at hl 5 rfl) ?_
                        refine lv_aload_n hx hb d_Mo_unseal_114 rfl (lv_at hl 0 rfl) ?_
                        refine gm_get (C := R_Mo) (T := F_Mo) (n := 44) hx hb htl i_Mo hown hK hP eh rfl 32 (by decide) (htl _ k_775) (fun _ h => h) rfl d_Mo_unseal_115 ?_
                        refine ln_ge (tgt := 156) hx hb d_Mo_unseal_118 (by decide) (by omega) (by omega) (fun c_155 => ?_) (fun c_155 => ?_)
                        · skip
                          refine lv_iload_n hx hb d_Mo_unseal_156 rfl (lv_at hl 3 rfl) ?_
                          refine lz_ne (tgt := 167) hx hb d_Mo_unseal_157 (by decide) (by omega) (fun c_156 => ?_) (fun c_156 => ?_)
                          · skip
                            refine lv_aload_n hx hb d_Mo_unseal_167 rfl (lv_at hl 0 rfl) ?_
                            refine gm_get (C := R_Mo) (T := F_Mo) (n := 44) hx hb htl i_Mo hown hK hP eh rfl 30 (by decide) (htl _ k_773) (fun _ h => h) rfl d_Mo_unseal_168 ?_
                            refine lv_aload_n hx hb d_Mo_unseal_171 rfl (lv_at hl 0 rfl) ?_
                            refine gm_get (C := R_Mo) (T := F_Mo) (n := 44) hx hb htl i_Mo hown hK hP eh rfl 32 (by decide) (htl _ k_775) (fun _ h => h) rfl d_Mo_unseal_172 ?_
                            refine lv_iload_n hx hb d_Mo_unseal_175 rfl (lv_at hl 1 rfl) ?_
                            refine gz_iast hx hb hK hP hS 0 m24 rfl (by omega) (by omega) d_Mo_unseal_176 (fun H locs hP hS => ?_)
                            have hP : gm_P D cls A N (gm_up M (h + 24) (.inl (ca 0, 512, .inl (iN (va_up aA na cn))))) H := hP
                            have h_157 := gm_pass (k := (h + 24)) (y := .inl (ca 0, 512, .inl (iN (va_up aA na cn)))) eh (gm_ne eh m24 (fun h => by cases h))
                            have h_158 := gm_pass (k := (h + 24)) (y := .inl (ca 0, 512, .inl (iN (va_up aA na cn)))) m2 (gm_ne m2 m24 (fun h => by simp at h))
                            have h_159 := gm_pass (k := (h + 24)) (y := .inl (ca 0, 512, .inl (iN (va_up aA na cn)))) m3 (gm_ne m3 m24 (fun h => by simp at h))
                            have h_160 := gm_pass (k := (h + 24)) (y := .inl (ca 0, 512, .inl (iN (va_up aA na cn)))) m4 (gm_ne m4 m24 (fun h => by simp at h))
                            have h_161 := gm_pass (k := (h + 24)) (y := .inl (ca 0, 512, .inl (iN (va_up aA na cn)))) m5 (gm_ne m5 m24 (fun h => by simp at h))
                            have h_162 := gm_pass (k := (h + 24)) (y := .inl (ca 0, 512, .inl (iN (va_up aA na cn)))) m6 (gm_ne m6 m24 (fun h => by simp at h))
                            have h_163 := gm_pass (k := (h + 24)) (y := .inl (ca 0, 512, .inl (iN (va_up aA na cn)))) m25 (by omega)
                            have h_164 := gm_pass (k := (h + 24)) (y := .inl (ca 0, 512, .inl (iN (va_up aA na cn)))) m26 (gm_ne m26 m24 (fun h => by simp at h))
                            have h_165 := gm_pass (k := (h + 24)) (y := .inl (ca 0, 512, .inl (iN (va_up aA na cn)))) m27 (gm_ne m27 m24 (fun h => by simp at h))
                            have h_166 := gm_up_self M (h + 24) (.inl (ca 0, 512, .inl (iN (va_up aA na cn))))
                            refine lv_aload_n hx hb d_Mo_unseal_177 rfl (lv_at hl 0 rfl) ?_
                            refine gm_get (C := R_Mo) (T := F_Mo) (n := 44) hx hb htl i_Mo hown hK hP h_157 rfl 31 (by decide) (htl _ k_774) (fun _ h => h) rfl d_Mo_unseal_178 ?_
                            refine lv_aload_n hx hb d_Mo_unseal_181 rfl (lv_at hl 0 rfl) ?_
                            refine gm_get (C := R_Mo) (T := F_Mo) (n := 44) hx hb htl i_Mo hown hK hP h_157 rfl 32 (by decide) (htl _ k_775) (fun _ h => h) rfl d_Mo_unseal_182 ?_
                            refine lv_iload_n hx hb d_Mo_unseal_185 rfl (lv_at hl 2 rfl) ?_
                            refine gz_iast hx hb hK hP hS 0 h_163 rfl (by omega) (by omega) d_Mo_unseal_186 (fun H locs hP hS => ?_)
                            have hP : gm_P D cls A N (gm_up (gm_up M (h + 24) (.inl (ca 0, 512, .inl (iN (va_up aA na cn))))) (h + 25) (.inl (ca 0, 512, .inl (iN (va_up aS na (sq + 1)))))) H := hP
                            have h_167 := gm_pass (k := (h + 25)) (y := .inl (ca 0, 512, .inl (iN (va_up aS na (sq + 1))))) h_157 (gm_ne h_157 h_163 (fun h => by cases h))
                            have h_168 := gm_pass (k := (h + 25)) (y := .inl (ca 0, 512, .inl (iN (va_up aS na (sq + 1))))) h_158 (gm_ne h_158 h_163 (fun h => by simp at h))
                            have h_169 := gm_pass (k := (h + 25)) (y := .inl (ca 0, 512, .inl (iN (va_up aS na (sq + 1))))) h_159 (gm_ne h_159 h_163 (fun h => by simp at h))
                            have h_170 := gm_pass (k := (h + 25)) (y := .inl (ca 0, 512, .inl (iN (va_up aS na (sq + 1))))) h_160 (gm_ne h_160 h_163 (fun h => by simp at h))
                            have h_171 := gm_pass (k := (h + 25)) (y := .inl (ca 0, 512, .inl (iN (va_up aS na (sq + 1))))) h_161 (gm_ne h_161 h_163 (fun h => by simp at h))
                            have h_172 := gm_pass (k := (h + 25)) (y := .inl (ca 0, 512, .inl (iN (va_up aS na (sq + 1))))) h_162 (gm_ne h_162 h_163 (fun h => by simp at h))
                            have h_173 := gm_pass (k := (h + 25)) (y := .inl (ca 0, 512, .inl (iN (va_up aS na (sq + 1))))) h_164 (gm_ne h_164 h_163 (fun h => by simp at h))
                            have h_174 := gm_pass (k := (h + 25)) (y := .inl (ca 0, 512, .inl (iN (va_up aS na (sq + 1))))) h_165 (gm_ne h_165 h_163 (fun h => by simp at h))
                            have h_175 := gm_pass (k := (h + 25)) (y := .inl (ca 0, 512, .inl (iN (va_up aS na (sq + 1))))) h_166 (by omega)
                            have h_176 := gm_up_self (gm_up M (h + 24) (.inl (ca 0, 512, .inl (iN (va_up aA na cn))))) (h + 25) (.inl (ca 0, 512, .inl (iN (va_up aS na (sq + 1)))))
                            refine lv_aload_n hx hb d_Mo_unseal_187 rfl (lv_at hl 0 rfl) ?_
                            refine lv_dup hx hb d_Mo_unseal_188 rfl ?_
                            refine gm_get (C := R_Mo) (T := F_Mo) (n := 44) hx hb htl i_Mo hown hK hP h_167 rfl 32 (by decide) (htl _ k_775) (fun _ h => h) rfl d_Mo_unseal_189 ?_
                            refine lv_iconst (v := nI 1) hx hb d_Mo_unseal_192 (by decide) ?_
                            refine lv_iadd hx hb d_Mo_unseal_193 ?_
                            rw [show (nI na) + (nI 1) = nI (na + 1) from nI_add _ _]
                            refine gm_put (C := R_Mo) (T := F_Mo) (n := 44) (ty := .int) hx hb htl i_Mo t_Mo tk_Mo n_Mo hown hK hP hS h_167 rfl 32 (by decide) (htl _ k_775) (fun _ h => h) rfl (tk_Mo 32 (by decide)) rfl rfl (Nat.le_of_ble_eq_true rfl) d_Mo_unseal_194 (fun H locs hP hS => ?_)
                            have hP : gm_P D cls A N (gm_up (gm_up (gm_up M (h + 24) (.inl (ca 0, 512, .inl (iN (va_up aA na cn))))) (h + 25) (.inl (ca 0, 512, .inl (iN (va_up aS na (sq + 1)))))) h (moO h (nI le) bp (nI nr) (nI wh) (nI tl) (nI ne) (nI nf) (nI (na + 1)) (nI an) (nI tm) (nI cn) (nI cs) (nI bd) (nI lt) (nI nt) fx fy)) H := hP
                            have h_177 := gm_pass (k := h) (y := moO h (nI le) bp (nI nr) (nI wh) (nI tl) (nI ne) (nI nf) (nI (na + 1)) (nI an) (nI tm) (nI cn) (nI cs) (nI bd) (nI lt) (nI nt) fx fy) h_168 (gm_ne h_168 h_167 (fun h => by cases h))
                            have h_178 := gm_pass (k := h) (y := moO h (nI le) bp (nI nr) (nI wh) (nI tl) (nI ne) (nI nf) (nI (na + 1)) (nI an) (nI tm) (nI cn) (nI cs) (nI bd) (nI lt) (nI nt) fx fy) h_169 (gm_ne h_169 h_167 (fun h => by cases h))
                            have h_179 := gm_pass (k := h) (y := moO h (nI le) bp (nI nr) (nI wh) (nI tl) (nI ne) (nI nf) (nI (na + 1)) (nI an) (nI tm) (nI cn) (nI cs) (nI bd) (nI lt) (nI nt) fx fy) h_170 (gm_ne h_170 h_167 (fun h => by cases h))
                            have h_180 := gm_pass (k := h) (y := moO h (nI le) bp (nI nr) (nI wh) (nI tl) (nI ne) (nI nf) (nI (na + 1)) (nI an) (nI tm) (nI cn) (nI cs) (nI bd) (nI lt) (nI nt) fx fy) h_171 (gm_ne h_171 h_167 (fun h => by cases h))
                            have h_181 := gm_pass (k := h) (y := moO h (nI le) bp (nI nr) (nI wh) (nI tl) (nI ne) (nI nf) (nI (na + 1)) (nI an) (nI tm) (nI cn) (nI cs) (nI bd) (nI lt) (nI nt) fx fy) h_172 (gm_ne h_172 h_167 (fun h => by cases h))
                            have h_182 := gm_pass (k := h) (y := moO h (nI le) bp (nI nr) (nI wh) (nI tl) (nI ne) (nI nf) (nI (na + 1)) (nI an) (nI tm) (nI cn) (nI cs) (nI bd) (nI lt) (nI nt) fx fy) h_173 (gm_ne h_173 h_167 (fun h => by cases h))
                            have h_183 := gm_pass (k := h) (y := moO h (nI le) bp (nI nr) (nI wh) (nI tl) (nI ne) (nI nf) (nI (na + 1)) (nI an) (nI tm) (nI cn) (nI cs) (nI bd) (nI lt) (nI nt) fx fy) h_174 (gm_ne h_174 h_167 (fun h => by cases h))
                            have h_184 := gm_pass (k := h) (y := moO h (nI le) bp (nI nr) (nI wh) (nI tl) (nI ne) (nI nf) (nI (na + 1)) (nI an) (nI tm) (nI cn) (nI cs) (nI bd) (nI lt) (nI nt) fx fy) h_175 (gm_ne h_175 h_167 (fun h => by cases h))
                            have h_185 := gm_pass (k := h) (y := moO h (nI le) bp (nI nr) (nI wh) (nI tl) (nI ne) (nI nf) (nI (na + 1)) (nI an) (nI tm) (nI cn) (nI cs) (nI bd) (nI lt) (nI nt) fx fy) h_176 (gm_ne h_176 h_167 (fun h => by cases h))
                            have h_186 := gm_up_self (gm_up (gm_up M (h + 24) (.inl (ca 0, 512, .inl (iN (va_up aA na cn))))) (h + 25) (.inl (ca 0, 512, .inl (iN (va_up aS na (sq + 1)))))) h (moO h (nI le) bp (nI nr) (nI wh) (nI tl) (nI ne) (nI nf) (nI (na + 1)) (nI an) (nI tm) (nI cn) (nI cs) (nI bd) (nI lt) (nI nt) fx fy)
                            refine lv_aload_n hx hb d_Mo_unseal_197 rfl (lv_at hl 0 rfl) ?_
                            refine gm_get (C := R_Mo) (T := F_Mo) (n := 44) hx hb htl i_Mo hown hK hP h_186 rfl 33 (by decide) (htl _ k_776) (fun _ h => h) rfl d_Mo_unseal_198 ?_
                            refine lv_iconst (v := nI 0) hx hb d_Mo_unseal_201 (by decide) ?_
                            refine gz_iald hx hb hK hP 0 h_182 rfl (by omega) (by omega) d_Mo_unseal_202 ?_
                            rw [show hd 0 = so / 256 from hhd.1]
                            refine gc_S (n := 1) [.int (nI (so / 256))] [] hx hb hml hown hts hK hN hX hP hS (c_Mo_outside (by omega)) k_956 k_957 k_10 k_958 (by decide +kernel) ⟨by decide, by decide⟩ rfl hl.1 rfl (Nat.le_of_ble_eq_true rfl) d_Mo_unseal_203 ⟨by decide, by decide⟩ (fun r N1 M_187 H locs hw hP hS => ?_)
                            obtain ⟨rfl, hw⟩ := hw
                            rcases hw with ⟨c_188, rfl, rfl⟩ | ⟨c_189, rfl, rfl⟩
                            · skip
                              refine W.eq (g2 := F0 m 206 ls [.int (nI 1)]) rfl ?_
                              refine lv_if_eq (tgt := 221) hx hb d_Mo_unseal_206 (by decide) (fun q => absurd q (by decide)) (fun _ => ?_)
                              refine lv_aload_n hx hb d_Mo_unseal_209 rfl (lv_at hl 0 rfl) ?_
                              refine gm_get (C := R_Mo) (T := F_Mo) (n := 44) hx hb htl i_Mo hown hK hP h_186 rfl 33 (by decide) (htl _ k_776) (fun _ h => h) rfl d_Mo_unseal_210 ?_
                              refine lv_iconst (v := nI 2) hx hb d_Mo_unseal_213 (by decide) ?_
                              refine gz_iald hx hb hK hP 0 h_182 rfl (by omega) (by omega) d_Mo_unseal_214 ?_
                              rw [show hd 2 = ta / 256 from hhd.2.2.1]
                              refine gc_S (n := 1) [.int (nI (ta / 256))] [] hx hb hml hown hts hK hN hX hP hS (c_Mo_inside (nI (ta / 256))) k_926 k_927 k_10 k_928 (by decide +kernel) ⟨by decide, by decide⟩ rfl hl.1 rfl (Nat.le_of_ble_eq_true rfl) d_Mo_unseal_215 ⟨by decide, by decide⟩ (fun r N1 M_190 H locs hw hP hS => ?_)
                              obtain ⟨rfl, hw⟩ := hw
                              rcases hw with ⟨c_191, rfl, rfl⟩ | ⟨c_192, rfl, rfl⟩
                              · skip
                                refine W.eq (g2 := F0 m 218 ls [.int (nI 1)]) rfl ?_
                                have b_193 : ta / 256 ≤ 127 := (inr_nI (by omega) (by decide)).mp c_191
                                refine lv_if_ne (tgt := 228) hx hb d_Mo_unseal_218 (by decide) (fun _ => ?_) (fun q => absurd q (by decide))
                                refine lv_aload_n hx hb d_Mo_unseal_228 rfl (lv_at hl 0 rfl) ?_
                                refine lv_iconst (v := nI 0) hx hb d_Mo_unseal_229 (by decide) ?_
                                refine lv_iload hx hb d_Mo_unseal_230 (lv_at hl 4 rfl) ?_
                                refine lv_aload_n hx hb d_Mo_unseal_232 rfl (lv_at hl 0 rfl) ?_
                                refine gm_get (C := R_Mo) (T := F_Mo) (n := 44) hx hb htl i_Mo hown hK hP h_186 rfl 33 (by decide) (htl _ k_776) (fun _ h => h) rfl d_Mo_unseal_233 ?_
                                refine lv_iconst (v := nI 0) hx hb d_Mo_unseal_236 (by decide) ?_
                                refine gz_iald hx hb hK hP 0 h_182 rfl (by omega) (by omega) d_Mo_unseal_237 ?_
                                rw [show hd 0 = so / 256 from hhd.1]
                                refine lv_aload_n hx hb d_Mo_unseal_238 rfl (lv_at hl 0 rfl) ?_
                                refine gm_get (C := R_Mo) (T := F_Mo) (n := 44) hx hb htl i_Mo hown hK hP h_186 rfl 33 (by decide) (htl _ k_776) (fun _ h => h) rfl d_Mo_unseal_239 ?_
                                refine lv_iconst (v := nI 2) hx hb d_Mo_unseal_242 (by decide) ?_
                                refine gz_iald hx hb hK hP 0 h_182 rfl (by omega) (by omega) d_Mo_unseal_243 ?_
                                rw [show hd 2 = ta / 256 from hhd.2.2.1]
                                refine lv_aload_n hx hb d_Mo_unseal_244 rfl (lv_at hl 0 rfl) ?_
                                refine gm_get (C := R_Mo) (T := F_Mo) (n := 44) hx hb htl i_Mo hown hK hP h_186 rfl 33 (by decide) (htl _ k_776) (fun _ h => h) rfl d_Mo_unseal_245 ?_
                                refine lv_iconst (v := nI 3) hx hb d_Mo_unseal_248 (by decide) ?_
                                refine gz_iald hx hb hK hP 0 h_182 rfl (by omega) (by omega) d_Mo_unseal_249 ?_
                                rw [show hd 3 = ta % 256 from hhd.2.2.2]
                                refine gc_V (q := (R_Mo, F_Mo, 44)) (n := 5) [.int (nI 0), .int (nI pr0), .int (nI (so / 256)), .int (nI (ta / 256)), .int (nI (ta % 256))] [] hx hb hml hown hts hK hN hX hP hS (c_Mo_policy (ru := ru) (lw := lw) (hw := hw) (s0 := so) (t0 := ta) h_186 h_177 h_178 h_179 h_180 h_181 hRU hU (by omega) (by omega) (by omega) (by omega) (by omega) (by omega)) rfl h_186 k_979 k_981 ks_Mo_policy k_10 k_982 (by decide +kernel) ⟨by decide, by decide⟩ rfl hl.1 rfl (Nat.le_of_ble_eq_true rfl) d_Mo_unseal_250 ⟨by decide, by decide⟩ (fun r N1 M_194 H locs hw hP hS => ?_)
                                obtain ⟨rfl, hw⟩ := hw
                                obtain ⟨av_195, c_196, rfl, rfl⟩ := hw
                                refine W.eq (g2 := F0 m 253 ls [.int (nI av_195)]) rfl ?_
                                have hp_197 := pol_F c_196
                                have b_198 := pol_le hU c_196
                                refine lv_iconst (v := nI 2) hx hb d_Mo_unseal_253 (by decide) ?_
                                refine ln_eq (tgt := 264) hx hb d_Mo_unseal_254 (by decide) (by omega) (by omega) (fun c_199 => ?_) (fun c_199 => ?_)
                                · skip
                                  refine lv_aload_n hx hb d_Mo_unseal_264 rfl (lv_at hl 0 rfl) ?_
                                  refine lv_iconst (v := nI 0) hx hb d_Mo_unseal_265 (by decide) ?_
                                  refine lv_aload_n hx hb d_Mo_unseal_266 rfl (lv_at hl 0 rfl) ?_
                                  refine gm_get (C := R_Mo) (T := F_Mo) (n := 44) hx hb htl i_Mo hown hK hP h_186 rfl 33 (by decide) (htl _ k_776) (fun _ h => h) rfl d_Mo_unseal_267 ?_
                                  refine lv_iconst (v := nI 0) hx hb d_Mo_unseal_270 (by decide) ?_
                                  refine gz_iald hx hb hK hP 0 h_182 rfl (by omega) (by omega) d_Mo_unseal_271 ?_
                                  rw [show hd 0 = so / 256 from hhd.1]
                                  refine lv_aload_n hx hb d_Mo_unseal_272 rfl (lv_at hl 0 rfl) ?_
                                  refine gm_get (C := R_Mo) (T := F_Mo) (n := 44) hx hb htl i_Mo hown hK hP h_186 rfl 33 (by decide) (htl _ k_776) (fun _ h => h) rfl d_Mo_unseal_273 ?_
                                  refine lv_iconst (v := nI 1) hx hb d_Mo_unseal_276 (by decide) ?_
                                  refine gz_iald hx hb hK hP 0 h_182 rfl (by omega) (by omega) d_Mo_unseal_277 ?_
                                  rw [show hd 1 = so % 256 from hhd.2.1]
                                  refine lv_aload_n hx hb d_Mo_unseal_278 rfl (lv_at hl 0 rfl) ?_
                                  refine gm_get (C := R_Mo) (T := F_Mo) (n := 44) hx hb htl i_Mo hown hK hP h_186 rfl 33 (by decide) (htl _ k_776) (fun _ h => h) rfl d_Mo_unseal_279 ?_
                                  refine lv_iconst (v := nI 2) hx hb d_Mo_unseal_282 (by decide) ?_
                                  refine gz_iald hx hb hK hP 0 h_182 rfl (by omega) (by omega) d_Mo_unseal_283 ?_
                                  rw [show hd 2 = ta / 256 from hhd.2.2.1]
                                  refine lv_aload_n hx hb d_Mo_unseal_284 rfl (lv_at hl 0 rfl) ?_
                                  refine gm_get (C := R_Mo) (T := F_Mo) (n := 44) hx hb htl i_Mo hown hK hP h_186 rfl 33 (by decide) (htl _ k_776) (fun _ h => h) rfl d_Mo_unseal_285 ?_
                                  refine lv_iconst (v := nI 3) hx hb d_Mo_unseal_288 (by decide) ?_
                                  refine gz_iald hx hb hK hP 0 h_182 rfl (by omega) (by omega) d_Mo_unseal_289 ?_
                                  rw [show hd 3 = ta % 256 from hhd.2.2.2]
                                  refine gc_V (q := (R_Mo, F_Mo, 44)) (n := 5) [.int (nI 0), .int (nI (so / 256)), .int (nI (so % 256)), .int (nI (ta / 256)), .int (nI (ta % 256))] [] hx hb hml hown hts hK hN hX hP hS (c_Mo_emit (nI 0) h_186 h_183) rfl h_186 k_975 k_977 ks_Mo_emit k_10 k_978 (by decide +kernel) ⟨by decide, by decide⟩ rfl hl.1 rfl (Nat.le_of_ble_eq_true rfl) d_Mo_unseal_290 ⟨by decide, by decide⟩ (fun r N1 M_200 H locs hw hP hS => ?_)
                                  obtain ⟨rfl, hw⟩ := hw
                                  obtain ⟨rfl, rfl⟩ := hw
                                  have h_201 := gm_pass (k := (h + 27)) (y := .inl (ca 0, 4, .inl (iN (eUp em (so / 256) (so % 256) (ta / 256) (ta % 256))))) h_177 (gm_ne h_177 h_183 (fun h => by simp at h))
                                  have h_202 := gm_pass (k := (h + 27)) (y := .inl (ca 0, 4, .inl (iN (eUp em (so / 256) (so % 256) (ta / 256) (ta % 256))))) h_178 (gm_ne h_178 h_183 (fun h => by simp at h))
                                  have h_203 := gm_pass (k := (h + 27)) (y := .inl (ca 0, 4, .inl (iN (eUp em (so / 256) (so % 256) (ta / 256) (ta % 256))))) h_179 (gm_ne h_179 h_183 (fun h => by simp at h))
                                  have h_204 := gm_pass (k := (h + 27)) (y := .inl (ca 0, 4, .inl (iN (eUp em (so / 256) (so % 256) (ta / 256) (ta % 256))))) h_180 (gm_ne h_180 h_183 (fun h => by simp at h))
                                  have h_205 := gm_pass (k := (h + 27)) (y := .inl (ca 0, 4, .inl (iN (eUp em (so / 256) (so % 256) (ta / 256) (ta % 256))))) h_181 (gm_ne h_181 h_183 (fun h => by simp at h))
                                  have h_206 := gm_pass (k := (h + 27)) (y := .inl (ca 0, 4, .inl (iN (eUp em (so / 256) (so % 256) (ta / 256) (ta % 256))))) h_182 (by omega)
                                  have h_207 := gm_pass (k := (h + 27)) (y := .inl (ca 0, 4, .inl (iN (eUp em (so / 256) (so % 256) (ta / 256) (ta % 256))))) h_184 (gm_ne h_184 h_183 (fun h => by simp at h))
                                  have h_208 := gm_pass (k := (h + 27)) (y := .inl (ca 0, 4, .inl (iN (eUp em (so / 256) (so % 256) (ta / 256) (ta % 256))))) h_185 (gm_ne h_185 h_183 (fun h => by simp at h))
                                  have h_209 := gm_pass (k := (h + 27)) (y := .inl (ca 0, 4, .inl (iN (eUp em (so / 256) (so % 256) (ta / 256) (ta % 256))))) h_186 (gm_ne h_186 h_183 (fun h => by cases h))
                                  have h_210 := gm_up_self (gm_up (gm_up (gm_up M (h + 24) (.inl (ca 0, 512, .inl (iN (va_up aA na cn))))) (h + 25) (.inl (ca 0, 512, .inl (iN (va_up aS na (sq + 1)))))) h (moO h (nI le) bp (nI nr) (nI wh) (nI tl) (nI ne) (nI nf) (nI (na + 1)) (nI an) (nI tm) (nI cn) (nI cs) (nI bd) (nI lt) (nI nt) fx fy)) (h + 27) (.inl (ca 0, 4, .inl (iN (eUp em (so / 256) (so % 256) (ta / 256) (ta % 256)))))
                                  have he_211 : gm_up (gm_up (gm_up (gm_up (gm_up M (h + 24) (.inl (ca 0, 512, .inl (iN (va_up aA na cn))))) (h + 25) (.inl (ca 0, 512, .inl (iN (va_up aS na (sq + 1)))))) h (moO h (nI le) bp (nI nr) (nI wh) (nI tl) (nI ne) (nI nf) (nI (na + 1)) (nI an) (nI tm) (nI cn) (nI cs) (nI bd) (nI lt) (nI nt) fx fy)) (h + 27) (.inl (ca 0, 4, .inl (iN (eUp em (so / 256) (so % 256) (ta / 256) (ta % 256)))))) h (moO h (nI le) bp (nI nr) (nI wh) (nI tl) (nI ne) (nI nf) (nI (na + 1)) (nI 1) (nI tm) (nI cn) (nI cs) (nI bd) (nI (lt + 1)) (nI nt) fx fy) = gm_up (gm_up (gm_up (gm_up M (h + 24) (.inl (ca 0, 512, .inl (iN (va_up aA na cn))))) (h + 25) (.inl (ca 0, 512, .inl (iN (va_up aS na (sq + 1)))))) h (moO h (nI le) bp (nI nr) (nI wh) (nI tl) (nI ne) (nI nf) (nI (na + 1)) (nI 1) (nI tm) (nI cn) (nI cs) (nI bd) (nI (lt + 1)) (nI nt) fx fy)) (h + 27) (.inl (ca 0, 4, .inl (iN (eUp em (so / 256) (so % 256) (ta / 256) (ta % 256))))) := (gm_swap (gm_ne h_210 h_209 (fun h => by cases h))).trans (congrArg (fun Z => gm_up Z (h + 27) (.inl (ca 0, 4, .inl (iN (eUp em (so / 256) (so % 256) (ta / 256) (ta % 256)))))) (gm_up_up _ _ _ _))
                                  have hP := Eq.mp (congrArg (fun Z => gm_P D cls A N (Z) H) he_211) hP
                                  have hP : gm_P D cls A N (gm_up (gm_up (gm_up (gm_up M (h + 24) (.inl (ca 0, 512, .inl (iN (va_up aA na cn))))) (h + 25) (.inl (ca 0, 512, .inl (iN (va_up aS na (sq + 1)))))) h (moO h (nI le) bp (nI nr) (nI wh) (nI tl) (nI ne) (nI nf) (nI (na + 1)) (nI 1) (nI tm) (nI cn) (nI cs) (nI bd) (nI (lt + 1)) (nI nt) fx fy)) (h + 27) (.inl (ca 0, 4, .inl (iN (eUp em (so / 256) (so % 256) (ta / 256) (ta % 256)))))) H := hP
                                  have h_212 := (congrFun he_211 _).symm.trans (gm_pass (k := h) (y := moO h (nI le) bp (nI nr) (nI wh) (nI tl) (nI ne) (nI nf) (nI (na + 1)) (nI 1) (nI tm) (nI cn) (nI cs) (nI bd) (nI (lt + 1)) (nI nt) fx fy) h_201 (gm_ne h_201 h_209 (fun h => by cases h)))
                                  have h_213 := (congrFun he_211 _).symm.trans (gm_pass (k := h) (y := moO h (nI le) bp (nI nr) (nI wh) (nI tl) (nI ne) (nI nf) (nI (na + 1)) (nI 1) (nI tm) (nI cn) (nI cs) (nI bd) (nI (lt + 1)) (nI nt) fx fy) h_202 (gm_ne h_202 h_209 (fun h => by cases h)))
                                  have h_214 := (congrFun he_211 _).symm.trans (gm_pass (k := h) (y := moO h (nI le) bp (nI nr) (nI wh) (nI tl) (nI ne) (nI nf) (nI (na + 1)) (nI 1) (nI tm) (nI cn) (nI cs) (nI bd) (nI (lt + 1)) (nI nt) fx fy) h_203 (gm_ne h_203 h_209 (fun h => by cases h)))
                                  have h_215 := (congrFun he_211 _).symm.trans (gm_pass (k := h) (y := moO h (nI le) bp (nI nr) (nI wh) (nI tl) (nI ne) (nI nf) (nI (na + 1)) (nI 1) (nI tm) (nI cn) (nI cs) (nI bd) (nI (lt + 1)) (nI nt) fx fy) h_204 (gm_ne h_204 h_209 (fun h => by cases h)))
                                  have h_216 := (congrFun he_211 _).symm.trans (gm_pass (k := h) (y := moO h (nI le) bp (nI nr) (nI wh) (nI tl) (nI ne) (nI nf) (nI (na + 1)) (nI 1) (nI tm) (nI cn) (nI cs) (nI bd) (nI (lt + 1)) (nI nt) fx fy) h_205 (gm_ne h_205 h_209 (fun h => by cases h)))
                                  have h_217 := (congrFun he_211 _).symm.trans (gm_pass (k := h) (y := moO h (nI le) bp (nI nr) (nI wh) (nI tl) (nI ne) (nI nf) (nI (na + 1)) (nI 1) (nI tm) (nI cn) (nI cs) (nI bd) (nI (lt + 1)) (nI nt) fx fy) h_206 (gm_ne h_206 h_209 (fun h => by cases h)))
                                  have h_218 := (congrFun he_211 _).symm.trans (gm_pass (k := h) (y := moO h (nI le) bp (nI nr) (nI wh) (nI tl) (nI ne) (nI nf) (nI (na + 1)) (nI 1) (nI tm) (nI cn) (nI cs) (nI bd) (nI (lt + 1)) (nI nt) fx fy) h_207 (gm_ne h_207 h_209 (fun h => by cases h)))
                                  have h_219 := (congrFun he_211 _).symm.trans (gm_pass (k := h) (y := moO h (nI le) bp (nI nr) (nI wh) (nI tl) (nI ne) (nI nf) (nI (na + 1)) (nI 1) (nI tm) (nI cn) (nI cs) (nI bd) (nI (lt + 1)) (nI nt) fx fy) h_208 (gm_ne h_208 h_209 (fun h => by cases h)))
                                  have h_220 := (congrFun he_211 _).symm.trans (gm_pass (k := h) (y := moO h (nI le) bp (nI nr) (nI wh) (nI tl) (nI ne) (nI nf) (nI (na + 1)) (nI 1) (nI tm) (nI cn) (nI cs) (nI bd) (nI (lt + 1)) (nI nt) fx fy) h_210 (gm_ne h_210 h_209 (fun h => by cases h)))
                                  have h_221 := (congrFun he_211 _).symm.trans (gm_up_self (gm_up (gm_up (gm_up (gm_up M (h + 24) (.inl (ca 0, 512, .inl (iN (va_up aA na cn))))) (h + 25) (.inl (ca 0, 512, .inl (iN (va_up aS na (sq + 1)))))) h (moO h (nI le) bp (nI nr) (nI wh) (nI tl) (nI ne) (nI nf) (nI (na + 1)) (nI an) (nI tm) (nI cn) (nI cs) (nI bd) (nI lt) (nI nt) fx fy)) (h + 27) (.inl (ca 0, 4, .inl (iN (eUp em (so / 256) (so % 256) (ta / 256) (ta % 256)))))) h (moO h (nI le) bp (nI nr) (nI wh) (nI tl) (nI ne) (nI nf) (nI (na + 1)) (nI 1) (nI tm) (nI cn) (nI cs) (nI bd) (nI (lt + 1)) (nI nt) fx fy))
                                  refine W.eq (g2 := F0 m 293 ls [.int (nI 0)]) rfl ?_
                                  rw [← hQ]
                                  exact gc_iret hx hb hr hlk hP hS d_Mo_unseal_293 ⟨rfl, Or.inr ⟨sq, pr0, f0, (nI 0), (eUp em (so / 256) (so % 256) (ta / 256) (ta % 256)), (lt + 1), nt, 1, (na + 1), (va_up aA na cn), (va_up aS na (sq + 1)), ⟨h0.1, rfl⟩, ⟨rfl, h0.2.1⟩, ⟨rfl, h0.2.2⟩, (Or.inl ⟨rfl, Or.inr (Or.inr ⟨(fun q => q.elim ((un_old (topA_le _ (fun k hk => (hacc k hk).2)) (by omega)).mp c_154) (fun ⟨z, h1, h2, h3⟩ => hno1 z (by omega) ⟨h2, h3⟩)), by omega, rfl, rfl, rfl, (by unfold seF; rw [if_neg (by omega), hp_197, if_neg (by omega)])⟩)⟩), (Or.inl ⟨by decide, rfl, rfl, rfl⟩), h_221, h_218, h_219, h_220, (fun z q0 q1 q2 q3 => (gm_up_ne _ _ q3).trans ((gm_up_ne _ _ q0).trans ((gm_up_ne _ _ q2).trans ((gm_up_ne _ _ q1).trans (rfl))))), rfl⟩⟩
                                · skip
                                  refine lv_aload_n hx hb d_Mo_unseal_257 rfl (lv_at hl 0 rfl) ?_
                                  refine lv_bipush (v := (-4)) hx hb d_Mo_unseal_258 (by decide) ?_
                                  refine gc_V (q := (R_Mo, F_Mo, 44)) (n := 1) [.int (-4)] [] hx hb hml hown hts hK hN hX hP hS (c_Mo_stop (-4) h_186) rfl h_186 k_959 k_961 ks_Mo_stop k_10 k_962 (by decide +kernel) ⟨by decide, by decide⟩ rfl hl.1 rfl (Nat.le_of_ble_eq_true rfl) d_Mo_unseal_260 ⟨by decide, by decide⟩ (fun r N1 M_222 H locs hw hP hS => ?_)
                                  obtain ⟨rfl, hw⟩ := hw
                                  obtain ⟨rfl, rfl⟩ := hw
                                  have he_223 : gm_up (gm_up (gm_up (gm_up M (h + 24) (.inl (ca 0, 512, .inl (iN (va_up aA na cn))))) (h + 25) (.inl (ca 0, 512, .inl (iN (va_up aS na (sq + 1)))))) h (moO h (nI le) bp (nI nr) (nI wh) (nI tl) (nI ne) (nI nf) (nI (na + 1)) (nI an) (nI tm) (nI cn) (nI cs) (nI bd) (nI lt) (nI nt) fx fy)) h (moO h (nI le) bp (nI nr) (nI wh) (nI tl) (nI ne) (nI nf) (nI (na + 1)) (nI an) (nI tm) (nI cn) (nI cs) (nI bd) (nI lt) (nI (nt + 1)) fx fy) = gm_up (gm_up (gm_up M (h + 24) (.inl (ca 0, 512, .inl (iN (va_up aA na cn))))) (h + 25) (.inl (ca 0, 512, .inl (iN (va_up aS na (sq + 1)))))) h (moO h (nI le) bp (nI nr) (nI wh) (nI tl) (nI ne) (nI nf) (nI (na + 1)) (nI an) (nI tm) (nI cn) (nI cs) (nI bd) (nI lt) (nI (nt + 1)) fx fy) := gm_up_up _ _ _ _
                                  have hP := Eq.mp (congrArg (fun Z => gm_P D cls A N Z H) he_223) hP
                                  have h_224 := (congrFun he_223 _).symm.trans (gm_pass (k := h) (y := moO h (nI le) bp (nI nr) (nI wh) (nI tl) (nI ne) (nI nf) (nI (na + 1)) (nI an) (nI tm) (nI cn) (nI cs) (nI bd) (nI lt) (nI (nt + 1)) fx fy) h_177 (gm_ne h_177 h_186 (fun h => by cases h)))
                                  have h_225 := (congrFun he_223 _).symm.trans (gm_pass (k := h) (y := moO h (nI le) bp (nI nr) (nI wh) (nI tl) (nI ne) (nI nf) (nI (na + 1)) (nI an) (nI tm) (nI cn) (nI cs) (nI bd) (nI lt) (nI (nt + 1)) fx fy) h_178 (gm_ne h_178 h_186 (fun h => by cases h)))
                                  have h_226 := (congrFun he_223 _).symm.trans (gm_pass (k := h) (y := moO h (nI le) bp (nI nr) (nI wh) (nI tl) (nI ne) (nI nf) (nI (na + 1)) (nI an) (nI tm) (nI cn) (nI cs) (nI bd) (nI lt) (nI (nt + 1)) fx fy) h_179 (gm_ne h_179 h_186 (fun h => by cases h)))
                                  have h_227 := (congrFun he_223 _).symm.trans (gm_pass (k := h) (y := moO h (nI le) bp (nI nr) (nI wh) (nI tl) (nI ne) (nI nf) (nI (na + 1)) (nI an) (nI tm) (nI cn) (nI cs) (nI bd) (nI lt) (nI (nt + 1)) fx fy) h_180 (gm_ne h_180 h_186 (fun h => by cases h)))
                                  have h_228 := (congrFun he_223 _).symm.trans (gm_pass (k := h) (y := moO h (nI le) bp (nI nr) (nI wh) (nI tl) (nI ne) (nI nf) (nI (na + 1)) (nI an) (nI tm) (nI cn) (nI cs) (nI bd) (nI lt) (nI (nt + 1)) fx fy) h_181 (gm_ne h_181 h_186 (fun h => by cases h)))
                                  have h_229 := (congrFun he_223 _).symm.trans (gm_pass (k := h) (y := moO h (nI le) bp (nI nr) (nI wh) (nI tl) (nI ne) (nI nf) (nI (na + 1)) (nI an) (nI tm) (nI cn) (nI cs) (nI bd) (nI lt) (nI (nt + 1)) fx fy) h_182 (gm_ne h_182 h_186 (fun h => by cases h)))
                                  have h_230 := (congrFun he_223 _).symm.trans (gm_pass (k := h) (y := moO h (nI le) bp (nI nr) (nI wh) (nI tl) (nI ne) (nI nf) (nI (na + 1)) (nI an) (nI tm) (nI cn) (nI cs) (nI bd) (nI lt) (nI (nt + 1)) fx fy) h_183 (gm_ne h_183 h_186 (fun h => by cases h)))
                                  have h_231 := (congrFun he_223 _).symm.trans (gm_pass (k := h) (y := moO h (nI le) bp (nI nr) (nI wh) (nI tl) (nI ne) (nI nf) (nI (na + 1)) (nI an) (nI tm) (nI cn) (nI cs) (nI bd) (nI lt) (nI (nt + 1)) fx fy) h_184 (gm_ne h_184 h_186 (fun h => by cases h)))
                                  have h_232 := (congrFun he_223 _).symm.trans (gm_pass (k := h) (y := moO h (nI le) bp (nI nr) (nI wh) (nI tl) (nI ne) (nI nf) (nI (na + 1)) (nI an) (nI tm) (nI cn) (nI cs) (nI bd) (nI lt) (nI (nt + 1)) fx fy) h_185 (gm_ne h_185 h_186 (fun h => by cases h)))
                                  have h_233 := (congrFun he_223 _).symm.trans (gm_up_self (gm_up (gm_up (gm_up M (h + 24) (.inl (ca 0, 512, .inl (iN (va_up aA na cn))))) (h + 25) (.inl (ca 0, 512, .inl (iN (va_up aS na (sq + 1)))))) h (moO h (nI le) bp (nI nr) (nI wh) (nI tl) (nI ne) (nI nf) (nI (na + 1)) (nI an) (nI tm) (nI cn) (nI cs) (nI bd) (nI lt) (nI nt) fx fy)) h (moO h (nI le) bp (nI nr) (nI wh) (nI tl) (nI ne) (nI nf) (nI (na + 1)) (nI an) (nI tm) (nI cn) (nI cs) (nI bd) (nI lt) (nI (nt + 1)) fx fy))
                                  refine W.eq (g2 := F0 m 263 ls [.int (-4)]) rfl ?_
                                  rw [← hQ]
                                  exact gc_iret hx hb hr hlk hP hS d_Mo_unseal_263 ⟨rfl, Or.inr ⟨sq, pr0, f0, (-4), em, lt, (nt + 1), an, (na + 1), (va_up aA na cn), (va_up aS na (sq + 1)), ⟨h0.1, rfl⟩, ⟨rfl, h0.2.1⟩, ⟨rfl, h0.2.2⟩, (Or.inl ⟨rfl, Or.inr (Or.inr ⟨(fun q => q.elim ((un_old (topA_le _ (fun k hk => (hacc k hk).2)) (by omega)).mp c_154) (fun ⟨z, h1, h2, h3⟩ => hno1 z (by omega) ⟨h2, h3⟩)), by omega, rfl, rfl, rfl, (by unfold seF; rw [if_neg (by omega), hp_197, if_pos (by omega)])⟩)⟩), (Or.inr ⟨by decide, rfl, rfl, rfl⟩), h_233, h_231, h_232, h_230, (fun z q0 q1 q2 q3 => (gm_up_ne _ _ q0).trans ((gm_up_ne _ _ q2).trans ((gm_up_ne _ _ q1).trans (rfl)))), rfl⟩⟩
                              · skip
                                refine W.eq (g2 := F0 m 218 ls [.int (nI 0)]) rfl ?_
                                have b_234 : ¬ ta / 256 ≤ 127 := fun q => c_192 ((inr_nI (by omega) (by decide)).mpr q)
                                refine lv_if_ne (tgt := 228) hx hb d_Mo_unseal_218 (by decide) (fun q => absurd q (by decide)) (fun _ => ?_)
                                refine lv_aload_n hx hb d_Mo_unseal_221 rfl (lv_at hl 0 rfl) ?_
                                refine lv_bipush (v := (-5)) hx hb d_Mo_unseal_222 (by decide) ?_
                                refine gc_V (q := (R_Mo, F_Mo, 44)) (n := 1) [.int (-5)] [] hx hb hml hown hts hK hN hX hP hS (c_Mo_stop (-5) h_186) rfl h_186 k_959 k_961 ks_Mo_stop k_10 k_962 (by decide +kernel) ⟨by decide, by decide⟩ rfl hl.1 rfl (Nat.le_of_ble_eq_true rfl) d_Mo_unseal_224 ⟨by decide, by decide⟩ (fun r N1 M_235 H locs hw hP hS => ?_)
                                obtain ⟨rfl, hw⟩ := hw
                                obtain ⟨rfl, rfl⟩ := hw
                                have he_236 : gm_up (gm_up (gm_up (gm_up M (h + 24) (.inl (ca 0, 512, .inl (iN (va_up aA na cn))))) (h + 25) (.inl (ca 0, 512, .inl (iN (va_up aS na (sq + 1)))))) h (moO h (nI le) bp (nI nr) (nI wh) (nI tl) (nI ne) (nI nf) (nI (na + 1)) (nI an) (nI tm) (nI cn) (nI cs) (nI bd) (nI lt) (nI nt) fx fy)) h (moO h (nI le) bp (nI nr) (nI wh) (nI tl) (nI ne) (nI nf) (nI (na + 1)) (nI an) (nI tm) (nI cn) (nI cs) (nI bd) (nI lt) (nI (nt + 1)) fx fy) = gm_up (gm_up (gm_up M (h + 24) (.inl (ca 0, 512, .inl (iN (va_up aA na cn))))) (h + 25) (.inl (ca 0, 512, .inl (iN (va_up aS na (sq + 1)))))) h (moO h (nI le) bp (nI nr) (nI wh) (nI tl) (nI ne) (nI nf) (nI (na + 1)) (nI an) (nI tm) (nI cn) (nI cs) (nI bd) (nI lt) (nI (nt + 1)) fx fy) := gm_up_up _ _ _ _
                                have hP := Eq.mp (congrArg (fun Z => gm_P D cls A N Z H) he_236) hP
                                have h_237 := (congrFun he_236 _).symm.trans (gm_pass (k := h) (y := moO h (nI le) bp (nI nr) (nI wh) (nI tl) (nI ne) (nI nf) (nI (na + 1)) (nI an) (nI tm) (nI cn) (nI cs) (nI bd) (nI lt) (nI (nt + 1)) fx fy) h_177 (gm_ne h_177 h_186 (fun h => by cases h)))
                                have h_238 := (congrFun he_236 _).symm.trans (gm_pass (k := h) (y := moO h (nI le) bp (nI nr) (nI wh) (nI tl) (nI ne) (nI nf) (nI (na + 1)) (nI an) (nI tm) (nI cn) (nI cs) (nI bd) (nI lt) (nI (nt + 1)) fx fy) h_178 (gm_ne h_178 h_186 (fun h => by cases h)))
                                have h_239 := (congrFun he_236 _).symm.trans (gm_pass (k := h) (y := moO h (nI le) bp (nI nr) (nI wh) (nI tl) (nI ne) (nI nf) (nI (na + 1)) (nI an) (nI tm) (nI cn) (nI cs) (nI bd) (nI lt) (nI (nt + 1)) fx fy) h_179 (gm_ne h_179 h_186 (fun h => by cases h)))
                                have h_240 := (congrFun he_236 _).symm.trans (gm_pass (k := h) (y := moO h (nI le) bp (nI nr) (nI wh) (nI tl) (nI ne) (nI nf) (nI (na + 1)) (nI an) (nI tm) (nI cn) (nI cs) (nI bd) (nI lt) (nI (nt + 1)) fx fy) h_180 (gm_ne h_180 h_186 (fun h => by cases h)))
                                have h_241 := (congrFun he_236 _).symm.trans (gm_pass (k := h) (y := moO h (nI le) bp (nI nr) (nI wh) (nI tl) (nI ne) (nI nf) (nI (na + 1)) (nI an) (nI tm) (nI cn) (nI cs) (nI bd) (nI lt) (nI (nt + 1)) fx fy) h_181 (gm_ne h_181 h_186 (fun h => by cases h)))
                                have h_242 := (congrFun he_236 _).symm.trans (gm_pass (k := h) (y := moO h (nI le) bp (nI nr) (nI wh) (nI tl) (nI ne) (nI nf) (nI (na + 1)) (nI an) (nI tm) (nI cn) (nI cs) (nI bd) (nI lt) (nI (nt + 1)) fx fy) h_182 (gm_ne h_182 h_186 (fun h => by cases h)))
                                have h_243 := (congrFun he_236 _).symm.trans (gm_pass (k := h) (y := moO h (nI le) bp (nI nr) (nI wh) (nI tl) (nI ne) (nI nf) (nI (na + 1)) (nI an) (nI tm) (nI cn) (nI cs) (nI bd) (nI lt) (nI (nt + 1)) fx fy) h_183 (gm_ne h_183 h_186 (fun h => by cases h)))
                                have h_244 := (congrFun he_236 _).symm.trans (gm_pass (k := h) (y := moO h (nI le) bp (nI nr) (nI wh) (nI tl) (nI ne) (nI nf) (nI (na + 1)) (nI an) (nI tm) (nI cn) (nI cs) (nI bd) (nI lt) (nI (nt + 1)) fx fy) h_184 (gm_ne h_184 h_186 (fun h => by cases h)))
                                have h_245 := (congrFun he_236 _).symm.trans (gm_pass (k := h) (y := moO h (nI le) bp (nI nr) (nI wh) (nI tl) (nI ne) (nI nf) (nI (na + 1)) (nI an) (nI tm) (nI cn) (nI cs) (nI bd) (nI lt) (nI (nt + 1)) fx fy) h_185 (gm_ne h_185 h_186 (fun h => by cases h)))
                                have h_246 := (congrFun he_236 _).symm.trans (gm_up_self (gm_up (gm_up (gm_up M (h + 24) (.inl (ca 0, 512, .inl (iN (va_up aA na cn))))) (h + 25) (.inl (ca 0, 512, .inl (iN (va_up aS na (sq + 1)))))) h (moO h (nI le) bp (nI nr) (nI wh) (nI tl) (nI ne) (nI nf) (nI (na + 1)) (nI an) (nI tm) (nI cn) (nI cs) (nI bd) (nI lt) (nI nt) fx fy)) h (moO h (nI le) bp (nI nr) (nI wh) (nI tl) (nI ne) (nI nf) (nI (na + 1)) (nI an) (nI tm) (nI cn) (nI cs) (nI bd) (nI lt) (nI (nt + 1)) fx fy))
                                refine W.eq (g2 := F0 m 227 ls [.int (-5)]) rfl ?_
                                rw [← hQ]
                                exact gc_iret hx hb hr hlk hP hS d_Mo_unseal_227 ⟨rfl, Or.inr ⟨sq, pr0, f0, (-5), em, lt, (nt + 1), an, (na + 1), (va_up aA na cn), (va_up aS na (sq + 1)), ⟨h0.1, rfl⟩, ⟨rfl, h0.2.1⟩, ⟨rfl, h0.2.2⟩, (Or.inl ⟨rfl, Or.inr (Or.inr ⟨(fun q => q.elim ((un_old (topA_le _ (fun k hk => (hacc k hk).2)) (by omega)).mp c_154) (fun ⟨z, h1, h2, h3⟩ => hno1 z (by omega) ⟨h2, h3⟩)), by omega, rfl, rfl, rfl, (by unfold seF; rw [if_pos (by omega)])⟩)⟩), (Or.inr ⟨by decide, rfl, rfl, rfl⟩), h_246, h_244, h_245, h_243, (fun z q0 q1 q2 q3 => (gm_up_ne _ _ q0).trans ((gm_up_ne _ _ q2).trans ((gm_up_ne _ _ q1).trans (rfl)))), rfl⟩⟩
                            · skip
                              refine W.eq (g2 := F0 m 206 ls [.int (nI 0)]) rfl ?_
                              refine lv_if_eq (tgt := 221) hx hb d_Mo_unseal_206 (by decide) (fun _ => ?_) (fun q => absurd q (by decide))
                              refine lv_aload_n hx hb d_Mo_unseal_221 rfl (lv_at hl 0 rfl) ?_
                              refine lv_bipush (v := (-5)) hx hb d_Mo_unseal_222 (by decide) ?_
                              refine gc_V (q := (R_Mo, F_Mo, 44)) (n := 1) [.int (-5)] [] hx hb hml hown hts hK hN hX hP hS (c_Mo_stop (-5) h_186) rfl h_186 k_959 k_961 ks_Mo_stop k_10 k_962 (by decide +kernel) ⟨by decide, by decide⟩ rfl hl.1 rfl (Nat.le_of_ble_eq_true rfl) d_Mo_unseal_224 ⟨by decide, by decide⟩ (fun r N1 M_247 H locs hw hP hS => ?_)
                              obtain ⟨rfl, hw⟩ := hw
                              obtain ⟨rfl, rfl⟩ := hw
                              have he_248 : gm_up (gm_up (gm_up (gm_up M (h + 24) (.inl (ca 0, 512, .inl (iN (va_up aA na cn))))) (h + 25) (.inl (ca 0, 512, .inl (iN (va_up aS na (sq + 1)))))) h (moO h (nI le) bp (nI nr) (nI wh) (nI tl) (nI ne) (nI nf) (nI (na + 1)) (nI an) (nI tm) (nI cn) (nI cs) (nI bd) (nI lt) (nI nt) fx fy)) h (moO h (nI le) bp (nI nr) (nI wh) (nI tl) (nI ne) (nI nf) (nI (na + 1)) (nI an) (nI tm) (nI cn) (nI cs) (nI bd) (nI lt) (nI (nt + 1)) fx fy) = gm_up (gm_up (gm_up M (h + 24) (.inl (ca 0, 512, .inl (iN (va_up aA na cn))))) (h + 25) (.inl (ca 0, 512, .inl (iN (va_up aS na (sq + 1)))))) h (moO h (nI le) bp (nI nr) (nI wh) (nI tl) (nI ne) (nI nf) (nI (na + 1)) (nI an) (nI tm) (nI cn) (nI cs) (nI bd) (nI lt) (nI (nt + 1)) fx fy) := gm_up_up _ _ _ _
                              have hP := Eq.mp (congrArg (fun Z => gm_P D cls A N Z H) he_248) hP
                              have h_249 := (congrFun he_248 _).symm.trans (gm_pass (k := h) (y := moO h (nI le) bp (nI nr) (nI wh) (nI tl) (nI ne) (nI nf) (nI (na + 1)) (nI an) (nI tm) (nI cn) (nI cs) (nI bd) (nI lt) (nI (nt + 1)) fx fy) h_177 (gm_ne h_177 h_186 (fun h => by cases h)))
                              have h_250 := (congrFun he_248 _).symm.trans (gm_pass (k := h) (y := moO h (nI le) bp (nI nr) (nI wh) (nI tl) (nI ne) (nI nf) (nI (na + 1)) (nI an) (nI tm) (nI cn) (nI cs) (nI bd) (nI lt) (nI (nt + 1)) fx fy) h_178 (gm_ne h_178 h_186 (fun h => by cases h)))
                              have h_251 := (congrFun he_248 _).symm.trans (gm_pass (k := h) (y := moO h (nI le) bp (nI nr) (nI wh) (nI tl) (nI ne) (nI nf) (nI (na + 1)) (nI an) (nI tm) (nI cn) (nI cs) (nI bd) (nI lt) (nI (nt + 1)) fx fy) h_179 (gm_ne h_179 h_186 (fun h => by cases h)))
                              have h_252 := (congrFun he_248 _).symm.trans (gm_pass (k := h) (y := moO h (nI le) bp (nI nr) (nI wh) (nI tl) (nI ne) (nI nf) (nI (na + 1)) (nI an) (nI tm) (nI cn) (nI cs) (nI bd) (nI lt) (nI (nt + 1)) fx fy) h_180 (gm_ne h_180 h_186 (fun h => by cases h)))
                              have h_253 := (congrFun he_248 _).symm.trans (gm_pass (k := h) (y := moO h (nI le) bp (nI nr) (nI wh) (nI tl) (nI ne) (nI nf) (nI (na + 1)) (nI an) (nI tm) (nI cn) (nI cs) (nI bd) (nI lt) (nI (nt + 1)) fx fy) h_181 (gm_ne h_181 h_186 (fun h => by cases h)))
                              have h_254 := (congrFun he_248 _).symm.trans (gm_pass (k := h) (y := moO h (nI le) bp (nI nr) (nI wh) (nI tl) (nI ne) (nI nf) (nI (na + 1)) (nI an) (nI tm) (nI cn) (nI cs) (nI bd) (nI lt) (nI (nt + 1)) fx fy) h_182 (gm_ne h_182 h_186 (fun h => by cases h)))
                              have h_255 := (congrFun he_248 _).symm.trans (gm_pass (k := h) (y := moO h (nI le) bp (nI nr) (nI wh) (nI tl) (nI ne) (nI nf) (nI (na + 1)) (nI an) (nI tm) (nI cn) (nI cs) (nI bd) (nI lt) (nI (nt + 1)) fx fy) h_183 (gm_ne h_183 h_186 (fun h => by cases h)))
                              have h_256 := (congrFun he_248 _).symm.trans (gm_pass (k := h) (y := moO h (nI le) bp (nI nr) (nI wh) (nI tl) (nI ne) (nI nf) (nI (na + 1)) (nI an) (nI tm) (nI cn) (nI cs) (nI bd) (nI lt) (nI (nt + 1)) fx fy) h_184 (gm_ne h_184 h_186 (fun h => by cases h)))
                              have h_257 := (congrFun he_248 _).symm.trans (gm_pass (k := h) (y := moO h (nI le) bp (nI nr) (nI wh) (nI tl) (nI ne) (nI nf) (nI (na + 1)) (nI an) (nI tm) (nI cn) (nI cs) (nI bd) (nI lt) (nI (nt + 1)) fx fy) h_185 (gm_ne h_185 h_186 (fun h => by cases h)))
                              have h_258 := (congrFun he_248 _).symm.trans (gm_up_self (gm_up (gm_up (gm_up M (h + 24) (.inl (ca 0, 512, .inl (iN (va_up aA na cn))))) (h + 25) (.inl (ca 0, 512, .inl (iN (va_up aS na (sq + 1)))))) h (moO h (nI le) bp (nI nr) (nI wh) (nI tl) (nI ne) (nI nf) (nI (na + 1)) (nI an) (nI tm) (nI cn) (nI cs) (nI bd) (nI lt) (nI nt) fx fy)) h (moO h (nI le) bp (nI nr) (nI wh) (nI tl) (nI ne) (nI nf) (nI (na + 1)) (nI an) (nI tm) (nI cn) (nI cs) (nI bd) (nI lt) (nI (nt + 1)) fx fy))
                              refine W.eq (g2 := F0 m 227 ls [.int (-5)]) rfl ?_
                              rw [← hQ]
                              exact gc_iret hx hb hr hlk hP hS d_Mo_unseal_227 ⟨rfl, Or.inr ⟨sq, pr0, f0, (-5), em, lt, (nt + 1), an, (na + 1), (va_up aA na cn), (va_up aS na (sq + 1)), ⟨h0.1, rfl⟩, ⟨rfl, h0.2.1⟩, ⟨rfl, h0.2.2⟩, (Or.inl ⟨rfl, Or.inr (Or.inr ⟨(fun q => q.elim ((un_old (topA_le _ (fun k hk => (hacc k hk).2)) (by omega)).mp c_154) (fun ⟨z, h1, h2, h3⟩ => hno1 z (by omega) ⟨h2, h3⟩)), by omega, rfl, rfl, rfl, (by unfold seF; rw [if_pos (by omega)])⟩)⟩), (Or.inr ⟨by decide, rfl, rfl, rfl⟩), h_258, h_256, h_257, h_255, (fun z q0 q1 q2 q3 => (gm_up_ne _ _ q0).trans ((gm_up_ne _ _ q2).trans ((gm_up_ne _ _ q1).trans (rfl)))), rfl⟩⟩
                          · skip
                            refine lv_aload_n hx hb d_Mo_unseal_160 rfl (lv_at hl 0 rfl) ?_
                            refine lv_bipush (v := (-9)) hx hb d_Mo_unseal_161 (by decide) ?_
                            refine gc_V (q := (R_Mo, F_Mo, 44)) (n := 1) [.int (-9)] [] hx hb hml hown hts hK hN hX hP hS (c_Mo_stop (-9) eh) rfl eh k_959 k_961 ks_Mo_stop k_10 k_962 (by decide +kernel) ⟨by decide, by decide⟩ rfl hl.1 rfl (Nat.le_of_ble_eq_true rfl) d_Mo_unseal_163 ⟨by decide, by decide⟩ (fun r N1 M_259 H locs hw hP hS => ?_)
                            obtain ⟨rfl, hw⟩ := hw
                            obtain ⟨rfl, rfl⟩ := hw
                            have hP : gm_P D cls A N (gm_up M h (moO h (nI le) bp (nI nr) (nI wh) (nI tl) (nI ne) (nI nf) (nI na) (nI an) (nI tm) (nI cn) (nI cs) (nI bd) (nI lt) (nI (nt + 1)) fx fy)) H := hP
                            have h_260 := gm_pass (k := h) (y := moO h (nI le) bp (nI nr) (nI wh) (nI tl) (nI ne) (nI nf) (nI na) (nI an) (nI tm) (nI cn) (nI cs) (nI bd) (nI lt) (nI (nt + 1)) fx fy) m2 (gm_ne m2 eh (fun h => by cases h))
                            have h_261 := gm_pass (k := h) (y := moO h (nI le) bp (nI nr) (nI wh) (nI tl) (nI ne) (nI nf) (nI na) (nI an) (nI tm) (nI cn) (nI cs) (nI bd) (nI lt) (nI (nt + 1)) fx fy) m3 (gm_ne m3 eh (fun h => by cases h))
                            have h_262 := gm_pass (k := h) (y := moO h (nI le) bp (nI nr) (nI wh) (nI tl) (nI ne) (nI nf) (nI na) (nI an) (nI tm) (nI cn) (nI cs) (nI bd) (nI lt) (nI (nt + 1)) fx fy) m4 (gm_ne m4 eh (fun h => by cases h))
                            have h_263 := gm_pass (k := h) (y := moO h (nI le) bp (nI nr) (nI wh) (nI tl) (nI ne) (nI nf) (nI na) (nI an) (nI tm) (nI cn) (nI cs) (nI bd) (nI lt) (nI (nt + 1)) fx fy) m5 (gm_ne m5 eh (fun h => by cases h))
                            have h_264 := gm_pass (k := h) (y := moO h (nI le) bp (nI nr) (nI wh) (nI tl) (nI ne) (nI nf) (nI na) (nI an) (nI tm) (nI cn) (nI cs) (nI bd) (nI lt) (nI (nt + 1)) fx fy) m6 (gm_ne m6 eh (fun h => by cases h))
                            have h_265 := gm_pass (k := h) (y := moO h (nI le) bp (nI nr) (nI wh) (nI tl) (nI ne) (nI nf) (nI na) (nI an) (nI tm) (nI cn) (nI cs) (nI bd) (nI lt) (nI (nt + 1)) fx fy) m24 (gm_ne m24 eh (fun h => by cases h))
                            have h_266 := gm_pass (k := h) (y := moO h (nI le) bp (nI nr) (nI wh) (nI tl) (nI ne) (nI nf) (nI na) (nI an) (nI tm) (nI cn) (nI cs) (nI bd) (nI lt) (nI (nt + 1)) fx fy) m25 (gm_ne m25 eh (fun h => by cases h))
                            have h_267 := gm_pass (k := h) (y := moO h (nI le) bp (nI nr) (nI wh) (nI tl) (nI ne) (nI nf) (nI na) (nI an) (nI tm) (nI cn) (nI cs) (nI bd) (nI lt) (nI (nt + 1)) fx fy) m26 (gm_ne m26 eh (fun h => by cases h))
                            have h_268 := gm_pass (k := h) (y := moO h (nI le) bp (nI nr) (nI wh) (nI tl) (nI ne) (nI nf) (nI na) (nI an) (nI tm) (nI cn) (nI cs) (nI bd) (nI lt) (nI (nt + 1)) fx fy) m27 (gm_ne m27 eh (fun h => by cases h))
                            have h_269 := gm_up_self M h (moO h (nI le) bp (nI nr) (nI wh) (nI tl) (nI ne) (nI nf) (nI na) (nI an) (nI tm) (nI cn) (nI cs) (nI bd) (nI lt) (nI (nt + 1)) fx fy)
                            refine W.eq (g2 := F0 m 166 ls [.int (-9)]) rfl ?_
                            rw [← hQ]
                            exact gc_iret hx hb hr hlk hP hS d_Mo_unseal_166 ⟨rfl, Or.inr ⟨sq, pr0, f0, (-9), em, lt, (nt + 1), an, na, aA, aS, ⟨h0.1, rfl⟩, ⟨rfl, h0.2.1⟩, ⟨rfl, h0.2.2⟩, (Or.inl ⟨rfl, Or.inr (Or.inl ⟨(fun q => q.elim ((un_old (topA_le _ (fun k hk => (hacc k hk).2)) (by omega)).mp c_154) (fun ⟨z, h1, h2, h3⟩ => hno1 z (by omega) ⟨h2, h3⟩)), by omega, rfl, rfl, rfl, rfl, rfl⟩)⟩), (Or.inr ⟨by decide, rfl, rfl, rfl⟩), h_269, h_265, h_266, h_268, (fun z q0 q1 q2 q3 => (gm_up_ne _ _ q0).trans (rfl)), rfl⟩⟩
                        · skip
                          refine lv_aload_n hx hb d_Mo_unseal_121 rfl (lv_at hl 0 rfl) ?_
                          refine gm_get (C := R_Mo) (T := F_Mo) (n := 44) hx hb htl i_Mo hown hK hP eh rfl 30 (by decide) (htl _ k_773) (fun _ h => h) rfl d_Mo_unseal_122 ?_
                          refine lv_iload hx hb d_Mo_unseal_125 (lv_at hl 5 rfl) ?_
                          refine gz_iald hx hb hK hP 0 m24 rfl (by omega) (by omega) d_Mo_unseal_127 ?_
                          have hab_ := hacc i (by omega)
                          refine lv_iload_n hx hb d_Mo_unseal_128 rfl (lv_at hl 1 rfl) ?_
                          refine ln_ne (tgt := 150) hx hb d_Mo_unseal_129 (by decide) (by omega) (by omega) (fun c_270 => ?_) (fun c_270 => ?_)
                          · skip
                            refine lv_iinc (v := nI (i + 1)) (lv' := [(7, .int (nI (i + 1))), (0, .ref h), (1, .int (nI cn)), (2, .int (nI (sq + 1))), (3, .int (nI au)), (4, .int (nI pr0))]) hx hb d_Mo_unseal_150 hl (k := 5) rfl (nI_1 i) (by decide) rfl (fun ls hl => ?_)
                            refine lv_goto (tgt := 112) hx hb d_Mo_unseal_153 (by decide) ?_
                            exact ih_112 (i + 1) ls _ _ (by omega) (fun z hz => by by_cases q : z = i; subst q; omega; exact hno1 z (by omega)) (by omega) hP hS (lv_sub hl [1, 2, 3, 4, 5, 0] rfl)
                          · skip
                            refine lv_aload_n hx hb d_Mo_unseal_132 rfl (lv_at hl 0 rfl) ?_
                            refine gm_get (C := R_Mo) (T := F_Mo) (n := 44) hx hb htl i_Mo hown hK hP eh rfl 31 (by decide) (htl _ k_774) (fun _ h => h) rfl d_Mo_unseal_133 ?_
                            refine lv_iload hx hb d_Mo_unseal_136 (lv_at hl 5 rfl) ?_
                            refine gz_iald hx hb hK hP 0 m25 rfl (by omega) (by omega) d_Mo_unseal_138 ?_
                            have has_ := hacc i (by omega)
                            refine lv_iload_n hx hb d_Mo_unseal_139 rfl (lv_at hl 2 rfl) ?_
                            refine ln_ne (tgt := 150) hx hb d_Mo_unseal_140 (by decide) (by omega) (by omega) (fun c_271 => ?_) (fun c_271 => ?_)
                            · skip
                              refine lv_iinc (v := nI (i + 1)) (lv' := [(7, .int (nI (i + 1))), (0, .ref h), (1, .int (nI cn)), (2, .int (nI (sq + 1))), (3, .int (nI au)), (4, .int (nI pr0))]) hx hb d_Mo_unseal_150 hl (k := 5) rfl (nI_1 i) (by decide) rfl (fun ls hl => ?_)
                              refine lv_goto (tgt := 112) hx hb d_Mo_unseal_153 (by decide) ?_
                              exact ih_112 (i + 1) ls _ _ (by omega) (fun z hz => by by_cases q : z = i; subst q; omega; exact hno1 z (by omega)) (by omega) hP hS (lv_sub hl [1, 2, 3, 4, 5, 0] rfl)
                            · skip
                              refine lv_aload_n hx hb d_Mo_unseal_143 rfl (lv_at hl 0 rfl) ?_
                              refine lv_bipush (v := (-8)) hx hb d_Mo_unseal_144 (by decide) ?_
                              refine gc_V (q := (R_Mo, F_Mo, 44)) (n := 1) [.int (-8)] [] hx hb hml hown hts hK hN hX hP hS (c_Mo_stop (-8) eh) rfl eh k_959 k_961 ks_Mo_stop k_10 k_962 (by decide +kernel) ⟨by decide, by decide⟩ rfl hl.1 rfl (Nat.le_of_ble_eq_true rfl) d_Mo_unseal_146 ⟨by decide, by decide⟩ (fun r N1 M_272 H locs hw hP hS => ?_)
                              obtain ⟨rfl, hw⟩ := hw
                              obtain ⟨rfl, rfl⟩ := hw
                              have hP : gm_P D cls A N (gm_up M h (moO h (nI le) bp (nI nr) (nI wh) (nI tl) (nI ne) (nI nf) (nI na) (nI an) (nI tm) (nI cn) (nI cs) (nI bd) (nI lt) (nI (nt + 1)) fx fy)) H := hP
                              have h_273 := gm_pass (k := h) (y := moO h (nI le) bp (nI nr) (nI wh) (nI tl) (nI ne) (nI nf) (nI na) (nI an) (nI tm) (nI cn) (nI cs) (nI bd) (nI lt) (nI (nt + 1)) fx fy) m2 (gm_ne m2 eh (fun h => by cases h))
                              have h_274 := gm_pass (k := h) (y := moO h (nI le) bp (nI nr) (nI wh) (nI tl) (nI ne) (nI nf) (nI na) (nI an) (nI tm) (nI cn) (nI cs) (nI bd) (nI lt) (nI (nt + 1)) fx fy) m3 (gm_ne m3 eh (fun h => by cases h))
                              have h_275 := gm_pass (k := h) (y := moO h (nI le) bp (nI nr) (nI wh) (nI tl) (nI ne) (nI nf) (nI na) (nI an) (nI tm) (nI cn) (nI cs) (nI bd) (nI lt) (nI (nt + 1)) fx fy) m4 (gm_ne m4 eh (fun h => by cases h))
                              have h_276 := gm_pass (k := h) (y := moO h (nI le) bp (nI nr) (nI wh) (nI tl) (nI ne) (nI nf) (nI na) (nI an) (nI tm) (nI cn) (nI cs) (nI bd) (nI lt) (nI (nt + 1)) fx fy) m5 (gm_ne m5 eh (fun h => by cases h))
                              have h_277 := gm_pass (k := h) (y := moO h (nI le) bp (nI nr) (nI wh) (nI tl) (nI ne) (nI nf) (nI na) (nI an) (nI tm) (nI cn) (nI cs) (nI bd) (nI lt) (nI (nt + 1)) fx fy) m6 (gm_ne m6 eh (fun h => by cases h))
                              have h_278 := gm_pass (k := h) (y := moO h (nI le) bp (nI nr) (nI wh) (nI tl) (nI ne) (nI nf) (nI na) (nI an) (nI tm) (nI cn) (nI cs) (nI bd) (nI lt) (nI (nt + 1)) fx fy) m24 (gm_ne m24 eh (fun h => by cases h))
                              have h_279 := gm_pass (k := h) (y := moO h (nI le) bp (nI nr) (nI wh) (nI tl) (nI ne) (nI nf) (nI na) (nI an) (nI tm) (nI cn) (nI cs) (nI bd) (nI lt) (nI (nt + 1)) fx fy) m25 (gm_ne m25 eh (fun h => by cases h))
                              have h_280 := gm_pass (k := h) (y := moO h (nI le) bp (nI nr) (nI wh) (nI tl) (nI ne) (nI nf) (nI na) (nI an) (nI tm) (nI cn) (nI cs) (nI bd) (nI lt) (nI (nt + 1)) fx fy) m26 (gm_ne m26 eh (fun h => by cases h))
                              have h_281 := gm_pass (k := h) (y := moO h (nI le) bp (nI nr) (nI wh) (nI tl) (nI ne) (nI nf) (nI na) (nI an) (nI tm) (nI cn) (nI cs) (nI bd) (nI lt) (nI (nt + 1)) fx fy) m27 (gm_ne m27 eh (fun h => by cases h))
                              have h_282 := gm_up_self M h (moO h (nI le) bp (nI nr) (nI wh) (nI tl) (nI ne) (nI nf) (nI na) (nI an) (nI tm) (nI cn) (nI cs) (nI bd) (nI lt) (nI (nt + 1)) fx fy)
                              refine W.eq (g2 := F0 m 149 ls [.int (-8)]) rfl ?_
                              rw [← hQ]
                              exact gc_iret hx hb hr hlk hP hS d_Mo_unseal_149 ⟨rfl, Or.inr ⟨sq, pr0, f0, (-8), em, lt, (nt + 1), an, na, aA, aS, ⟨h0.1, rfl⟩, ⟨rfl, h0.2.1⟩, ⟨rfl, h0.2.2⟩, (Or.inl ⟨rfl, Or.inl ⟨Or.inr ⟨i, by omega, by omega, by omega⟩, rfl, rfl, rfl, rfl, rfl⟩⟩), (Or.inr ⟨by decide, rfl, rfl, rfl⟩), h_282, h_278, h_279, h_281, (fun z q0 q1 q2 q3 => (gm_up_ne _ _ q0).trans (rfl)), rfl⟩⟩
                    exact loop_112 (_ + 1) 0 ls _ _ (Nat.zero_le _) (fun z hz => absurd hz (Nat.not_lt_zero _)) (Nat.lt_succ_self _) hP hS (lv_sub hl [2, 3, 4, 5, 6, 0] rfl)
                  · skip
                    refine lv_aload_n hx hb d_Mo_unseal_102 rfl (lv_at hl 1 rfl) ?_
                    refine lv_bipush (v := (-8)) hx hb d_Mo_unseal_103 (by decide) ?_
                    refine gc_V (q := (R_Mo, F_Mo, 44)) (n := 1) [.int (-8)] [] hx hb hml hown hts hK hN hX hP hS (c_Mo_stop (-8) eh) rfl eh k_959 k_961 ks_Mo_stop k_10 k_962 (by decide +kernel) ⟨by decide, by decide⟩ rfl hl.1 rfl (Nat.le_of_ble_eq_true rfl) d_Mo_unseal_105 ⟨by decide, by decide⟩ (fun r N1 M_283 H locs hw hP hS => ?_)
                    obtain ⟨rfl, hw⟩ := hw
                    obtain ⟨rfl, rfl⟩ := hw
                    have hP : gm_P D cls A N (gm_up M h (moO h (nI le) bp (nI nr) (nI wh) (nI tl) (nI ne) (nI nf) (nI na) (nI an) (nI tm) (nI cn) (nI cs) (nI bd) (nI lt) (nI (nt + 1)) fx fy)) H := hP
                    have h_284 := gm_pass (k := h) (y := moO h (nI le) bp (nI nr) (nI wh) (nI tl) (nI ne) (nI nf) (nI na) (nI an) (nI tm) (nI cn) (nI cs) (nI bd) (nI lt) (nI (nt + 1)) fx fy) m2 (gm_ne m2 eh (fun h => by cases h))
                    have h_285 := gm_pass (k := h) (y := moO h (nI le) bp (nI nr) (nI wh) (nI tl) (nI ne) (nI nf) (nI na) (nI an) (nI tm) (nI cn) (nI cs) (nI bd) (nI lt) (nI (nt + 1)) fx fy) m3 (gm_ne m3 eh (fun h => by cases h))
                    have h_286 := gm_pass (k := h) (y := moO h (nI le) bp (nI nr) (nI wh) (nI tl) (nI ne) (nI nf) (nI na) (nI an) (nI tm) (nI cn) (nI cs) (nI bd) (nI lt) (nI (nt + 1)) fx fy) m4 (gm_ne m4 eh (fun h => by cases h))
                    have h_287 := gm_pass (k := h) (y := moO h (nI le) bp (nI nr) (nI wh) (nI tl) (nI ne) (nI nf) (nI na) (nI an) (nI tm) (nI cn) (nI cs) (nI bd) (nI lt) (nI (nt + 1)) fx fy) m5 (gm_ne m5 eh (fun h => by cases h))
                    have h_288 := gm_pass (k := h) (y := moO h (nI le) bp (nI nr) (nI wh) (nI tl) (nI ne) (nI nf) (nI na) (nI an) (nI tm) (nI cn) (nI cs) (nI bd) (nI lt) (nI (nt + 1)) fx fy) m6 (gm_ne m6 eh (fun h => by cases h))
                    have h_289 := gm_pass (k := h) (y := moO h (nI le) bp (nI nr) (nI wh) (nI tl) (nI ne) (nI nf) (nI na) (nI an) (nI tm) (nI cn) (nI cs) (nI bd) (nI lt) (nI (nt + 1)) fx fy) m24 (gm_ne m24 eh (fun h => by cases h))
                    have h_290 := gm_pass (k := h) (y := moO h (nI le) bp (nI nr) (nI wh) (nI tl) (nI ne) (nI nf) (nI na) (nI an) (nI tm) (nI cn) (nI cs) (nI bd) (nI lt) (nI (nt + 1)) fx fy) m25 (gm_ne m25 eh (fun h => by cases h))
                    have h_291 := gm_pass (k := h) (y := moO h (nI le) bp (nI nr) (nI wh) (nI tl) (nI ne) (nI nf) (nI na) (nI an) (nI tm) (nI cn) (nI cs) (nI bd) (nI lt) (nI (nt + 1)) fx fy) m26 (gm_ne m26 eh (fun h => by cases h))
                    have h_292 := gm_pass (k := h) (y := moO h (nI le) bp (nI nr) (nI wh) (nI tl) (nI ne) (nI nf) (nI na) (nI an) (nI tm) (nI cn) (nI cs) (nI bd) (nI lt) (nI (nt + 1)) fx fy) m27 (gm_ne m27 eh (fun h => by cases h))
                    have h_293 := gm_up_self M h (moO h (nI le) bp (nI nr) (nI wh) (nI tl) (nI ne) (nI nf) (nI na) (nI an) (nI tm) (nI cn) (nI cs) (nI bd) (nI lt) (nI (nt + 1)) fx fy)
                    refine W.eq (g2 := F0 m 108 ls [.int (-8)]) rfl ?_
                    rw [← hQ]
                    exact gc_iret hx hb hr hlk hP hS d_Mo_unseal_108 ⟨rfl, Or.inr ⟨sq, pr0, f0, (-8), em, lt, (nt + 1), an, na, aA, aS, ⟨h0.1, rfl⟩, ⟨rfl, h0.2.1⟩, ⟨rfl, h0.2.2⟩, (Or.inl ⟨rfl, Or.inl ⟨Or.inl (Classical.byContradiction (fun q => c_154 ((un_old (topA_le _ (fun k hk => (hacc k hk).2)) (by omega)).mpr q))), rfl, rfl, rfl, rfl, rfl⟩⟩), (Or.inr ⟨by decide, rfl, rfl, rfl⟩), h_293, h_289, h_290, h_292, (fun z q0 q1 q2 q3 => (gm_up_ne _ _ q0).trans (rfl)), rfl⟩⟩
                · omega
              · omega
          · skip
            exfalso; omega
        · skip
          refine W.eq (g2 := F0 m 17 ls [.int (nI 0)]) rfl ?_
          refine lv_if_eq (tgt := 32) hx hb d_Mo_unseal_17 (by decide) (fun _ => ?_) (fun q => absurd q (by decide))
          exact absurd ⟨pr0, by omega, rfl⟩ c_5
  · skip
    refine lv_iload_n hx hb d_Mo_unseal_0 rfl (lv_at hl 2 rfl) ?_
    refine lv_iconst (v := nI 1) hx hb d_Mo_unseal_1 (by decide) ?_
    refine ln_lt (tgt := 32) hx hb d_Mo_unseal_2 (by decide) (by omega) (by omega) (fun c_294 => ?_) (fun c_294 => ?_)
    · skip
      exfalso; omega
    · skip
      refine lv_iload_n hx hb d_Mo_unseal_5 rfl (lv_at hl 2 rfl) ?_
      refine lv_sipush (v := nI 9999) hx hb d_Mo_unseal_6 (by decide) ?_
      refine ln_gt (tgt := 32) hx hb d_Mo_unseal_9 (by decide) (by omega) (by omega) (fun c_295 => ?_) (fun c_295 => ?_)
      · skip
        exfalso; omega
      · skip
        refine lv_iload hx hb d_Mo_unseal_12 (lv_at hl 4 rfl) ?_
        refine gc_S (n := 1) [.int (nI pr0)] [] hx hb hml hown hts hK hN hX hP hS (c_Mo_isProtocol (nI pr0)) k_923 k_924 k_10 k_925 (by decide +kernel) ⟨by decide, by decide⟩ rfl hl.1 rfl (Nat.le_of_ble_eq_true rfl) d_Mo_unseal_14 ⟨by decide, by decide⟩ (fun r N1 M_296 H locs hw hP hS => ?_)
        obtain ⟨rfl, hw⟩ := hw
        rcases hw with ⟨c_297, rfl, rfl⟩ | ⟨c_298, rfl, rfl⟩
        · skip
          refine W.eq (g2 := F0 m 17 ls [.int (nI 1)]) rfl ?_
          refine lv_if_eq (tgt := 32) hx hb d_Mo_unseal_17 (by decide) (fun q => absurd q (by decide)) (fun _ => ?_)
          refine lv_iload hx hb d_Mo_unseal_20 (lv_at hl 5 rfl) ?_
          refine lz_lt (tgt := 32) hx hb d_Mo_unseal_22 (by decide) (by omega) ?_
          refine lv_iload hx hb d_Mo_unseal_25 (lv_at hl 5 rfl) ?_
          refine lv_bipush (v := nI 15) hx hb d_Mo_unseal_27 (by decide) ?_
          refine ln_le (tgt := 34) hx hb d_Mo_unseal_29 (by decide) (by omega) (by omega) (fun c_300 => ?_) (fun c_300 => ?_)
          · skip
            refine lv_aload_n hx hb d_Mo_unseal_34 rfl (lv_at hl 0 rfl) ?_
            refine gm_get (C := R_Mo) (T := F_Mo) (n := 44) hx hb htl i_Mo hown hK hP eh rfl 37 (by decide) (htl _ k_780) (fun _ h => h) rfl d_Mo_unseal_35 ?_
            refine lv_iconst (v := nI 1) hx hb d_Mo_unseal_38 (by decide) ?_
            refine ln_le (tgt := 67) hx hb d_Mo_unseal_39 (by decide) (by omega) (by omega) (fun c_301 => ?_) (fun c_301 => ?_)
            · skip
              refine lv_iconst (v := nI 0) hx hb d_Mo_unseal_67 (by decide) ?_
              refine lv_istore (lv' := [(6, .int (nI 0)), (0, .ref h), (1, .int (nI (cn - 1))), (2, .int (nI (sq + 1))), (3, .int (nI au)), (4, .int (nI pr0)), (5, .int (nI f0))]) hx hb d_Mo_unseal_68 hl (by decide) rfl (fun ls hl => ?_)
              refine lv_iload_n hx hb d_Mo_unseal_70 rfl (lv_at hl 2 rfl) ?_
              refine lv_aload_n hx hb d_Mo_unseal_71 rfl (lv_at hl 1 rfl) ?_
              refine gm_get (C := R_Mo) (T := F_Mo) (n := 44) hx hb htl i_Mo hown hK hP eh rfl 37 (by decide) (htl _ k_780) (fun _ h => h) rfl d_Mo_unseal_72 ?_
              refine ln_eq (tgt := 90) hx hb d_Mo_unseal_75 (by decide) (by omega) (by omega) (fun c_302 => ?_) (fun c_302 => ?_)
              · omega
              · skip
                refine lv_iload hx hb d_Mo_unseal_78 (lv_at hl 0 rfl) ?_
                refine lv_if_ne (tgt := 90) hx hb d_Mo_unseal_80 (by decide) (fun q => absurd q (by decide)) (fun _ => ?_)
                refine lv_aload_n hx hb d_Mo_unseal_83 rfl (lv_at hl 1 rfl) ?_
                refine lv_bipush (v := (-10)) hx hb d_Mo_unseal_84 (by decide) ?_
                refine gc_V (q := (R_Mo, F_Mo, 44)) (n := 1) [.int (-10)] [] hx hb hml hown hts hK hN hX hP hS (c_Mo_stop (-10) eh) rfl eh k_959 k_961 ks_Mo_stop k_10 k_962 (by decide +kernel) ⟨by decide, by decide⟩ rfl hl.1 rfl (Nat.le_of_ble_eq_true rfl) d_Mo_unseal_86 ⟨by decide, by decide⟩ (fun r N1 M_303 H locs hw hP hS => ?_)
                obtain ⟨rfl, hw⟩ := hw
                obtain ⟨rfl, rfl⟩ := hw
                have hP : gm_P D cls A N (gm_up M h (moO h (nI le) bp (nI nr) (nI wh) (nI tl) (nI ne) (nI nf) (nI na) (nI an) (nI tm) (nI cn) (nI cs) (nI bd) (nI lt) (nI (nt + 1)) fx fy)) H := hP
                have h_304 := gm_pass (k := h) (y := moO h (nI le) bp (nI nr) (nI wh) (nI tl) (nI ne) (nI nf) (nI na) (nI an) (nI tm) (nI cn) (nI cs) (nI bd) (nI lt) (nI (nt + 1)) fx fy) m2 (gm_ne m2 eh (fun h => by cases h))
                have h_305 := gm_pass (k := h) (y := moO h (nI le) bp (nI nr) (nI wh) (nI tl) (nI ne) (nI nf) (nI na) (nI an) (nI tm) (nI cn) (nI cs) (nI bd) (nI lt) (nI (nt + 1)) fx fy) m3 (gm_ne m3 eh (fun h => by cases h))
                have h_306 := gm_pass (k := h) (y := moO h (nI le) bp (nI nr) (nI wh) (nI tl) (nI ne) (nI nf) (nI na) (nI an) (nI tm) (nI cn) (nI cs) (nI bd) (nI lt) (nI (nt + 1)) fx fy) m4 (gm_ne m4 eh (fun h => by cases h))
                have h_307 := gm_pass (k := h) (y := moO h (nI le) bp (nI nr) (nI wh) (nI tl) (nI ne) (nI nf) (nI na) (nI an) (nI tm) (nI cn) (nI cs) (nI bd) (nI lt) (nI (nt + 1)) fx fy) m5 (gm_ne m5 eh (fun h => by cases h))
                have h_308 := gm_pass (k := h) (y := moO h (nI le) bp (nI nr) (nI wh) (nI tl) (nI ne) (nI nf) (nI na) (nI an) (nI tm) (nI cn) (nI cs) (nI bd) (nI lt) (nI (nt + 1)) fx fy) m6 (gm_ne m6 eh (fun h => by cases h))
                have h_309 := gm_pass (k := h) (y := moO h (nI le) bp (nI nr) (nI wh) (nI tl) (nI ne) (nI nf) (nI na) (nI an) (nI tm) (nI cn) (nI cs) (nI bd) (nI lt) (nI (nt + 1)) fx fy) m24 (gm_ne m24 eh (fun h => by cases h))
                have h_310 := gm_pass (k := h) (y := moO h (nI le) bp (nI nr) (nI wh) (nI tl) (nI ne) (nI nf) (nI na) (nI an) (nI tm) (nI cn) (nI cs) (nI bd) (nI lt) (nI (nt + 1)) fx fy) m25 (gm_ne m25 eh (fun h => by cases h))
                have h_311 := gm_pass (k := h) (y := moO h (nI le) bp (nI nr) (nI wh) (nI tl) (nI ne) (nI nf) (nI na) (nI an) (nI tm) (nI cn) (nI cs) (nI bd) (nI lt) (nI (nt + 1)) fx fy) m26 (gm_ne m26 eh (fun h => by cases h))
                have h_312 := gm_pass (k := h) (y := moO h (nI le) bp (nI nr) (nI wh) (nI tl) (nI ne) (nI nf) (nI na) (nI an) (nI tm) (nI cn) (nI cs) (nI bd) (nI lt) (nI (nt + 1)) fx fy) m27 (gm_ne m27 eh (fun h => by cases h))
                have h_313 := gm_up_self M h (moO h (nI le) bp (nI nr) (nI wh) (nI tl) (nI ne) (nI nf) (nI na) (nI an) (nI tm) (nI cn) (nI cs) (nI bd) (nI lt) (nI (nt + 1)) fx fy)
                refine W.eq (g2 := F0 m 89 ls [.int (-10)]) rfl ?_
                rw [← hQ]
                exact gc_iret hx hb hr hlk hP hS d_Mo_unseal_89 ⟨rfl, Or.inr ⟨sq, pr0, f0, (-10), em, lt, (nt + 1), an, na, aA, aS, ⟨h0.1, rfl⟩, ⟨rfl, h0.2.1⟩, ⟨rfl, h0.2.2⟩, (Or.inr (Or.inr ⟨hy, (fun q => by omega), rfl, rfl, rfl, rfl, rfl⟩)), (Or.inr ⟨by decide, rfl, rfl, rfl⟩), h_313, h_309, h_310, h_312, (fun z q0 q1 q2 q3 => (gm_up_ne _ _ q0).trans (rfl)), rfl⟩⟩
            · skip
              refine lv_iload_n hx hb d_Mo_unseal_42 rfl (lv_at hl 1 rfl) ?_
              refine lv_aload_n hx hb d_Mo_unseal_43 rfl (lv_at hl 0 rfl) ?_
              refine gm_get (C := R_Mo) (T := F_Mo) (n := 44) hx hb htl i_Mo hown hK hP eh rfl 37 (by decide) (htl _ k_780) (fun _ h => h) rfl d_Mo_unseal_44 ?_
              refine lv_iconst (v := nI 1) hx hb d_Mo_unseal_47 (by decide) ?_
              refine lv_isub hx hb d_Mo_unseal_48 ?_
              rw [show (nI cn) - (nI 1) = nI (cn - 1) from pk_sub (by omega)]
              refine ln_ne (tgt := 67) hx hb d_Mo_unseal_49 (by decide) (by omega) (by omega) (fun c_314 => ?_) (fun c_314 => ?_)
              · omega
              · skip
                refine lv_aload_n hx hb d_Mo_unseal_52 rfl (lv_at hl 0 rfl) ?_
                refine gm_get (C := R_Mo) (T := F_Mo) (n := 44) hx hb htl i_Mo hown hK hP eh rfl 39 (by decide) (htl _ k_782) (fun _ h => h) rfl d_Mo_unseal_53 ?_
                refine lv_aload_n hx hb d_Mo_unseal_56 rfl (lv_at hl 0 rfl) ?_
                refine gm_get (C := R_Mo) (T := F_Mo) (n := 44) hx hb htl i_Mo hown hK hP eh rfl 36 (by decide) (htl _ k_779) (fun _ h => h) rfl d_Mo_unseal_57 ?_
                refine ln_le (tgt := 67) hx hb d_Mo_unseal_60 (by decide) (by omega) (by omega) (fun c_315 => ?_) (fun c_315 => ?_)
                · skip
                  refine lv_iconst (v := nI 0) hx hb d_Mo_unseal_67 (by decide) ?_
                  refine lv_istore (lv' := [(6, .int (nI 0)), (0, .ref h), (1, .int (nI (cn - 1))), (2, .int (nI (sq + 1))), (3, .int (nI au)), (4, .int (nI pr0)), (5, .int (nI f0))]) hx hb d_Mo_unseal_68 hl (by decide) rfl (fun ls hl => ?_)
                  refine lv_iload_n hx hb d_Mo_unseal_70 rfl (lv_at hl 2 rfl) ?_
                  refine lv_aload_n hx hb d_Mo_unseal_71 rfl (lv_at hl 1 rfl) ?_
                  refine gm_get (C := R_Mo) (T := F_Mo) (n := 44) hx hb htl i_Mo hown hK hP eh rfl 37 (by decide) (htl _ k_780) (fun _ h => h) rfl d_Mo_unseal_72 ?_
                  refine ln_eq (tgt := 90) hx hb d_Mo_unseal_75 (by decide) (by omega) (by omega) (fun c_316 => ?_) (fun c_316 => ?_)
                  · omega
                  · skip
                    refine lv_iload hx hb d_Mo_unseal_78 (lv_at hl 0 rfl) ?_
                    refine lv_if_ne (tgt := 90) hx hb d_Mo_unseal_80 (by decide) (fun q => absurd q (by decide)) (fun _ => ?_)
                    refine lv_aload_n hx hb d_Mo_unseal_83 rfl (lv_at hl 1 rfl) ?_
                    refine lv_bipush (v := (-10)) hx hb d_Mo_unseal_84 (by decide) ?_
                    refine gc_V (q := (R_Mo, F_Mo, 44)) (n := 1) [.int (-10)] [] hx hb hml hown hts hK hN hX hP hS (c_Mo_stop (-10) eh) rfl eh k_959 k_961 ks_Mo_stop k_10 k_962 (by decide +kernel) ⟨by decide, by decide⟩ rfl hl.1 rfl (Nat.le_of_ble_eq_true rfl) d_Mo_unseal_86 ⟨by decide, by decide⟩ (fun r N1 M_317 H locs hw hP hS => ?_)
                    obtain ⟨rfl, hw⟩ := hw
                    obtain ⟨rfl, rfl⟩ := hw
                    have hP : gm_P D cls A N (gm_up M h (moO h (nI le) bp (nI nr) (nI wh) (nI tl) (nI ne) (nI nf) (nI na) (nI an) (nI tm) (nI cn) (nI cs) (nI bd) (nI lt) (nI (nt + 1)) fx fy)) H := hP
                    have h_318 := gm_pass (k := h) (y := moO h (nI le) bp (nI nr) (nI wh) (nI tl) (nI ne) (nI nf) (nI na) (nI an) (nI tm) (nI cn) (nI cs) (nI bd) (nI lt) (nI (nt + 1)) fx fy) m2 (gm_ne m2 eh (fun h => by cases h))
                    have h_319 := gm_pass (k := h) (y := moO h (nI le) bp (nI nr) (nI wh) (nI tl) (nI ne) (nI nf) (nI na) (nI an) (nI tm) (nI cn) (nI cs) (nI bd) (nI lt) (nI (nt + 1)) fx fy) m3 (gm_ne m3 eh (fun h => by cases h))
                    have h_320 := gm_pass (k := h) (y := moO h (nI le) bp (nI nr) (nI wh) (nI tl) (nI ne) (nI nf) (nI na) (nI an) (nI tm) (nI cn) (nI cs) (nI bd) (nI lt) (nI (nt + 1)) fx fy) m4 (gm_ne m4 eh (fun h => by cases h))
                    have h_321 := gm_pass (k := h) (y := moO h (nI le) bp (nI nr) (nI wh) (nI tl) (nI ne) (nI nf) (nI na) (nI an) (nI tm) (nI cn) (nI cs) (nI bd) (nI lt) (nI (nt + 1)) fx fy) m5 (gm_ne m5 eh (fun h => by cases h))
                    have h_322 := gm_pass (k := h) (y := moO h (nI le) bp (nI nr) (nI wh) (nI tl) (nI ne) (nI nf) (nI na) (nI an) (nI tm) (nI cn) (nI cs) (nI bd) (nI lt) (nI (nt + 1)) fx fy) m6 (gm_ne m6 eh (fun h => by cases h))
                    have h_323 := gm_pass (k := h) (y := moO h (nI le) bp (nI nr) (nI wh) (nI tl) (nI ne) (nI nf) (nI na) (nI an) (nI tm) (nI cn) (nI cs) (nI bd) (nI lt) (nI (nt + 1)) fx fy) m24 (gm_ne m24 eh (fun h => by cases h))
                    have h_324 := gm_pass (k := h) (y := moO h (nI le) bp (nI nr) (nI wh) (nI tl) (nI ne) (nI nf) (nI na) (nI an) (nI tm) (nI cn) (nI cs) (nI bd) (nI lt) (nI (nt + 1)) fx fy) m25 (gm_ne m25 eh (fun h => by cases h))
                    have h_325 := gm_pass (k := h) (y := moO h (nI le) bp (nI nr) (nI wh) (nI tl) (nI ne) (nI nf) (nI na) (nI an) (nI tm) (nI cn) (nI cs) (nI bd) (nI lt) (nI (nt + 1)) fx fy) m26 (gm_ne m26 eh (fun h => by cases h))
                    have h_326 := gm_pass (k := h) (y := moO h (nI le) bp (nI nr) (nI wh) (nI tl) (nI ne) (nI nf) (nI na) (nI an) (nI tm) (nI cn) (nI cs) (nI bd) (nI lt) (nI (nt + 1)) fx fy) m27 (gm_ne m27 eh (fun h => by cases h))
                    have h_327 := gm_up_self M h (moO h (nI le) bp (nI nr) (nI wh) (nI tl) (nI ne) (nI nf) (nI na) (nI an) (nI tm) (nI cn) (nI cs) (nI bd) (nI lt) (nI (nt + 1)) fx fy)
                    refine W.eq (g2 := F0 m 89 ls [.int (-10)]) rfl ?_
                    rw [← hQ]
                    exact gc_iret hx hb hr hlk hP hS d_Mo_unseal_89 ⟨rfl, Or.inr ⟨sq, pr0, f0, (-10), em, lt, (nt + 1), an, na, aA, aS, ⟨h0.1, rfl⟩, ⟨rfl, h0.2.1⟩, ⟨rfl, h0.2.2⟩, (Or.inr (Or.inr ⟨hy, (fun q => by omega), rfl, rfl, rfl, rfl, rfl⟩)), (Or.inr ⟨by decide, rfl, rfl, rfl⟩), h_327, h_323, h_324, h_326, (fun z q0 q1 q2 q3 => (gm_up_ne _ _ q0).trans (rfl)), rfl⟩⟩
                · skip
                  refine lv_iconst (v := nI 1) hx hb d_Mo_unseal_63 (by decide) ?_
                  refine lv_goto (tgt := 68) hx hb d_Mo_unseal_64 (by decide) ?_
                  refine lv_istore (lv' := [(6, .int (nI 1)), (0, .ref h), (1, .int (nI (cn - 1))), (2, .int (nI (sq + 1))), (3, .int (nI au)), (4, .int (nI pr0)), (5, .int (nI f0))]) hx hb d_Mo_unseal_68 hl (by decide) rfl (fun ls hl => ?_)
                  refine lv_iload_n hx hb d_Mo_unseal_70 rfl (lv_at hl 2 rfl) ?_
                  refine lv_aload_n hx hb d_Mo_unseal_71 rfl (lv_at hl 1 rfl) ?_
                  refine gm_get (C := R_Mo) (T := F_Mo) (n := 44) hx hb htl i_Mo hown hK hP eh rfl 37 (by decide) (htl _ k_780) (fun _ h => h) rfl d_Mo_unseal_72 ?_
                  refine ln_eq (tgt := 90) hx hb d_Mo_unseal_75 (by decide) (by omega) (by omega) (fun c_328 => ?_) (fun c_328 => ?_)
                  · omega
                  · skip
                    refine lv_iload hx hb d_Mo_unseal_78 (lv_at hl 0 rfl) ?_
                    refine lv_if_ne (tgt := 90) hx hb d_Mo_unseal_80 (by decide) (fun _ => ?_) (fun q => absurd q (by decide))
                    refine lv_iload_n hx hb d_Mo_unseal_90 rfl (lv_at hl 3 rfl) ?_
                    refine lv_aload_n hx hb d_Mo_unseal_91 rfl (lv_at hl 1 rfl) ?_
                    refine lv_iload_n hx hb d_Mo_unseal_92 rfl (lv_at hl 2 rfl) ?_
                    refine gc_V (q := (R_Mo, F_Mo, 44)) (n := 1) [.int (nI (cn - 1))] [.int (nI (sq + 1))] hx hb hml hown hts hK hN hX hP hS (c_Mo_top eh m24 m25 hacc hna (by omega)) rfl eh k_1006 k_1008 ks_Mo_top k_10 k_1009 (by decide +kernel) ⟨by decide, by decide⟩ rfl hl.1 rfl (Nat.le_of_ble_eq_true rfl) d_Mo_unseal_93 ⟨by decide, by decide⟩ (fun r N1 M_329 H locs hw hP hS => ?_)
                    obtain ⟨rfl, hw⟩ := hw
                    obtain ⟨rfl, rfl⟩ := hw
                    refine W.eq (g2 := F0 m 96 ls [.int (nI (topA aA aS (cn - 1) na)), .int (nI (sq + 1))]) rfl ?_
                    refine lv_bipush (v := nI 32) hx hb d_Mo_unseal_96 (by decide) ?_
                    refine lv_isub hx hb d_Mo_unseal_98 ?_
                    refine lv_icmp_gt (tgt := 109) hx hb d_Mo_unseal_99 (by decide) (fun c_330 => ?_) (fun c_330 => ?_)
                    · skip
                      refine lv_iconst (v := nI 0) hx hb d_Mo_unseal_109 (by decide) ?_
                      refine lv_istore (lv' := [(7, .int (nI 0)), (6, .int (nI 1)), (0, .ref h), (1, .int (nI (cn - 1))), (2, .int (nI (sq + 1))), (3, .int (nI au)), (4, .int (nI pr0)), (5, .int (nI f0))]) hx hb d_Mo_unseal_110 hl (by decide) rfl (fun ls hl => ?_)
                      have loop_112 : ∀ (fu : Nat) (i : Nat) (ls : Array Slot) (H : Heap) (locs : List Loc), (i ≤ na) → (∀ z, z < i → ¬ (aA z = (cn - 1) ∧ aS z = sq + 1)) → (na - i) < fu → gm_P D cls A N M H → va_S A s.heap H locs → lv_has ls 8 [(0, .ref h), (1, .int (nI (cn - 1))), (2, .int (nI (sq + 1))), (3, .int (nI au)), (4, .int (nI pr0)), (7, .int (nI i))] → W p l e ({ frames := 2, cells := 0, slots := 0, locals := 48 }) s m ([.ref h, .int (nI (cn - 1)), .int (nI (sq + 1)), .int (nI au), .int (nI pr0), .int (nI f0)] : List Value).toArray below meth c H locs (0) (0) Q (F0 m 112 ls []) := by
                        intro fu
                        induction fu with
                        | zero => intro i ls H locs hi hno1 hk; exact absurd hk (Nat.not_lt_zero _)
                        | succ fu ih_112 =>
                          intro i ls H locs hi hno1 hk hP hS hl
                          refine lv_iload hx hb d_Mo_unseal_112 (lv_at hl 5 rfl) ?_
                          refine lv_aload_n hx hb d_Mo_unseal_114 rfl (lv_at hl 0 rfl) ?_
                          refine gm_get (C := R_Mo) (T := F_Mo) (n := 44) hx hb htl i_Mo hown hK hP eh rfl 32 (by decide) (htl _ k_775) (fun _ h => h) rfl d_Mo_unseal_115 ?_
                          refine ln_ge (tgt := 156) hx hb d_Mo_unseal_118 (by decide) (by omega) (by omega) (fun c_331 => ?_) (fun c_331 => ?_)
                          · skip
                            refine lv_iload_n hx hb d_Mo_unseal_156 rfl (lv_at hl 3 rfl) ?_
                            refine lz_ne (tgt := 167) hx hb d_Mo_unseal_157 (by decide) (by omega) (fun c_332 => ?_) (fun c_332 => ?_)
                            · skip
                              refine lv_aload_n hx hb d_Mo_unseal_167 rfl (lv_at hl 0 rfl) ?_
                              refine gm_get (C := R_Mo) (T := F_Mo) (n := 44) hx hb htl i_Mo hown hK hP eh rfl 30 (by decide) (htl _ k_773) (fun _ h => h) rfl d_Mo_unseal_168 ?_
                              refine lv_aload_n hx hb d_Mo_unseal_171 rfl (lv_at hl 0 rfl) ?_
                              refine gm_get (C := R_Mo) (T := F_Mo) (n := 44) hx hb htl i_Mo hown hK hP eh rfl 32 (by decide) (htl _ k_775) (fun _ h => h) rfl d_Mo_unseal_172 ?_
                              refine lv_iload_n hx hb d_Mo_unseal_175 rfl (lv_at hl 1 rfl) ?_
                              refine gz_iast hx hb hK hP hS 0 m24 rfl (by omega) (by omega) d_Mo_unseal_176 (fun H locs hP hS => ?_)
                              have hP : gm_P D cls A N (gm_up M (h + 24) (.inl (ca 0, 512, .inl (iN (va_up aA na (cn - 1)))))) H := hP
                              have h_333 := gm_pass (k := (h + 24)) (y := .inl (ca 0, 512, .inl (iN (va_up aA na (cn - 1))))) eh (gm_ne eh m24 (fun h => by cases h))
                              have h_334 := gm_pass (k := (h + 24)) (y := .inl (ca 0, 512, .inl (iN (va_up aA na (cn - 1))))) m2 (gm_ne m2 m24 (fun h => by simp at h))
                              have h_335 := gm_pass (k := (h + 24)) (y := .inl (ca 0, 512, .inl (iN (va_up aA na (cn - 1))))) m3 (gm_ne m3 m24 (fun h => by simp at h))
                              have h_336 := gm_pass (k := (h + 24)) (y := .inl (ca 0, 512, .inl (iN (va_up aA na (cn - 1))))) m4 (gm_ne m4 m24 (fun h => by simp at h))
                              have h_337 := gm_pass (k := (h + 24)) (y := .inl (ca 0, 512, .inl (iN (va_up aA na (cn - 1))))) m5 (gm_ne m5 m24 (fun h => by simp at h))
                              have h_338 := gm_pass (k := (h + 24)) (y := .inl (ca 0, 512, .inl (iN (va_up aA na (cn - 1))))) m6 (gm_ne m6 m24 (fun h => by simp at h))
                              have h_339 := gm_pass (k := (h + 24)) (y := .inl (ca 0, 512, .inl (iN (va_up aA na (cn - 1))))) m25 (by omega)
                              have h_340 := gm_pass (k := (h + 24)) (y := .inl (ca 0, 512, .inl (iN (va_up aA na (cn - 1))))) m26 (gm_ne m26 m24 (fun h => by simp at h))
                              have h_341 := gm_pass (k := (h + 24)) (y := .inl (ca 0, 512, .inl (iN (va_up aA na (cn - 1))))) m27 (gm_ne m27 m24 (fun h => by simp at h))
                              have h_342 := gm_up_self M (h + 24) (.inl (ca 0, 512, .inl (iN (va_up aA na (cn - 1)))))
                              refine lv_aload_n hx hb d_Mo_unseal_177 rfl (lv_at hl 0 rfl) ?_
                              refine gm_get (C := R_Mo) (T := F_Mo) (n := 44) hx hb htl i_Mo hown hK hP h_333 rfl 31 (by decide) (htl _ k_774) (fun _ h => h) rfl d_Mo_unseal_178 ?_
                              refine lv_aload_n hx hb d_Mo_unseal_181 rfl (lv_at hl 0 rfl) ?_
                              refine gm_get (C := R_Mo) (T := F_Mo) (n := 44) hx hb htl i_Mo hown hK hP h_333 rfl 32 (by decide) (htl _ k_775) (fun _ h => h) rfl d_Mo_unseal_182 ?_
                              refine lv_iload_n hx hb d_Mo_unseal_185 rfl (lv_at hl 2 rfl) ?_
                              refine gz_iast hx hb hK hP hS 0 h_339 rfl (by omega) (by omega) d_Mo_unseal_186 (fun H locs hP hS => ?_)
                              have hP : gm_P D cls A N (gm_up (gm_up M (h + 24) (.inl (ca 0, 512, .inl (iN (va_up aA na (cn - 1)))))) (h + 25) (.inl (ca 0, 512, .inl (iN (va_up aS na (sq + 1)))))) H := hP
                              have h_343 := gm_pass (k := (h + 25)) (y := .inl (ca 0, 512, .inl (iN (va_up aS na (sq + 1))))) h_333 (gm_ne h_333 h_339 (fun h => by cases h))
                              have h_344 := gm_pass (k := (h + 25)) (y := .inl (ca 0, 512, .inl (iN (va_up aS na (sq + 1))))) h_334 (gm_ne h_334 h_339 (fun h => by simp at h))
                              have h_345 := gm_pass (k := (h + 25)) (y := .inl (ca 0, 512, .inl (iN (va_up aS na (sq + 1))))) h_335 (gm_ne h_335 h_339 (fun h => by simp at h))
                              have h_346 := gm_pass (k := (h + 25)) (y := .inl (ca 0, 512, .inl (iN (va_up aS na (sq + 1))))) h_336 (gm_ne h_336 h_339 (fun h => by simp at h))
                              have h_347 := gm_pass (k := (h + 25)) (y := .inl (ca 0, 512, .inl (iN (va_up aS na (sq + 1))))) h_337 (gm_ne h_337 h_339 (fun h => by simp at h))
                              have h_348 := gm_pass (k := (h + 25)) (y := .inl (ca 0, 512, .inl (iN (va_up aS na (sq + 1))))) h_338 (gm_ne h_338 h_339 (fun h => by simp at h))
                              have h_349 := gm_pass (k := (h + 25)) (y := .inl (ca 0, 512, .inl (iN (va_up aS na (sq + 1))))) h_340 (gm_ne h_340 h_339 (fun h => by simp at h))
                              have h_350 := gm_pass (k := (h + 25)) (y := .inl (ca 0, 512, .inl (iN (va_up aS na (sq + 1))))) h_341 (gm_ne h_341 h_339 (fun h => by simp at h))
                              have h_351 := gm_pass (k := (h + 25)) (y := .inl (ca 0, 512, .inl (iN (va_up aS na (sq + 1))))) h_342 (by omega)
                              have h_352 := gm_up_self (gm_up M (h + 24) (.inl (ca 0, 512, .inl (iN (va_up aA na (cn - 1)))))) (h + 25) (.inl (ca 0, 512, .inl (iN (va_up aS na (sq + 1)))))
                              refine lv_aload_n hx hb d_Mo_unseal_187 rfl (lv_at hl 0 rfl) ?_
                              refine lv_dup hx hb d_Mo_unseal_188 rfl ?_
                              refine gm_get (C := R_Mo) (T := F_Mo) (n := 44) hx hb htl i_Mo hown hK hP h_343 rfl 32 (by decide) (htl _ k_775) (fun _ h => h) rfl d_Mo_unseal_189 ?_
                              refine lv_iconst (v := nI 1) hx hb d_Mo_unseal_192 (by decide) ?_
                              refine lv_iadd hx hb d_Mo_unseal_193 ?_
                              rw [show (nI na) + (nI 1) = nI (na + 1) from nI_add _ _]
                              refine gm_put (C := R_Mo) (T := F_Mo) (n := 44) (ty := .int) hx hb htl i_Mo t_Mo tk_Mo n_Mo hown hK hP hS h_343 rfl 32 (by decide) (htl _ k_775) (fun _ h => h) rfl (tk_Mo 32 (by decide)) rfl rfl (Nat.le_of_ble_eq_true rfl) d_Mo_unseal_194 (fun H locs hP hS => ?_)
                              have hP : gm_P D cls A N (gm_up (gm_up (gm_up M (h + 24) (.inl (ca 0, 512, .inl (iN (va_up aA na (cn - 1)))))) (h + 25) (.inl (ca 0, 512, .inl (iN (va_up aS na (sq + 1)))))) h (moO h (nI le) bp (nI nr) (nI wh) (nI tl) (nI ne) (nI nf) (nI (na + 1)) (nI an) (nI tm) (nI cn) (nI cs) (nI bd) (nI lt) (nI nt) fx fy)) H := hP
                              have h_353 := gm_pass (k := h) (y := moO h (nI le) bp (nI nr) (nI wh) (nI tl) (nI ne) (nI nf) (nI (na + 1)) (nI an) (nI tm) (nI cn) (nI cs) (nI bd) (nI lt) (nI nt) fx fy) h_344 (gm_ne h_344 h_343 (fun h => by cases h))
                              have h_354 := gm_pass (k := h) (y := moO h (nI le) bp (nI nr) (nI wh) (nI tl) (nI ne) (nI nf) (nI (na + 1)) (nI an) (nI tm) (nI cn) (nI cs) (nI bd) (nI lt) (nI nt) fx fy) h_345 (gm_ne h_345 h_343 (fun h => by cases h))
                              have h_355 := gm_pass (k := h) (y := moO h (nI le) bp (nI nr) (nI wh) (nI tl) (nI ne) (nI nf) (nI (na + 1)) (nI an) (nI tm) (nI cn) (nI cs) (nI bd) (nI lt) (nI nt) fx fy) h_346 (gm_ne h_346 h_343 (fun h => by cases h))
                              have h_356 := gm_pass (k := h) (y := moO h (nI le) bp (nI nr) (nI wh) (nI tl) (nI ne) (nI nf) (nI (na + 1)) (nI an) (nI tm) (nI cn) (nI cs) (nI bd) (nI lt) (nI nt) fx fy) h_347 (gm_ne h_347 h_343 (fun h => by cases h))
                              have h_357 := gm_pass (k := h) (y := moO h (nI le) bp (nI nr) (nI wh) (nI tl) (nI ne) (nI nf) (nI (na + 1)) (nI an) (nI tm) (nI cn) (nI cs) (nI bd) (nI lt) (nI nt) fx fy) h_348 (gm_ne h_348 h_343 (fun h => by cases h))
                              have h_358 := gm_pass (k := h) (y := moO h (nI le) bp (nI nr) (nI wh) (nI tl) (nI ne) (nI nf) (nI (na + 1)) (nI an) (nI tm) (nI cn) (nI cs) (nI bd) (nI lt) (nI nt) fx fy) h_349 (gm_ne h_349 h_343 (fun h => by cases h))
                              have h_359 := gm_pass (k := h) (y := moO h (nI le) bp (nI nr) (nI wh) (nI tl) (nI ne) (nI nf) (nI (na + 1)) (nI an) (nI tm) (nI cn) (nI cs) (nI bd) (nI lt) (nI nt) fx fy) h_350 (gm_ne h_350 h_343 (fun h => by cases h))
                              have h_360 := gm_pass (k := h) (y := moO h (nI le) bp (nI nr) (nI wh) (nI tl) (nI ne) (nI nf) (nI (na + 1)) (nI an) (nI tm) (nI cn) (nI cs) (nI bd) (nI lt) (nI nt) fx fy) h_351 (gm_ne h_351 h_343 (fun h => by cases h))
                              have h_361 := gm_pass (k := h) (y := moO h (nI le) bp (nI nr) (nI wh) (nI tl) (nI ne) (nI nf) (nI (na + 1)) (nI an) (nI tm) (nI cn) (nI cs) (nI bd) (nI lt) (nI nt) fx fy) h_352 (gm_ne h_352 h_343 (fun h => by cases h))
                              have h_362 := gm_up_self (gm_up (gm_up M (h + 24) (.inl (ca 0, 512, .inl (iN (va_up aA na (cn - 1)))))) (h + 25) (.inl (ca 0, 512, .inl (iN (va_up aS na (sq + 1)))))) h (moO h (nI le) bp (nI nr) (nI wh) (nI tl) (nI ne) (nI nf) (nI (na + 1)) (nI an) (nI tm) (nI cn) (nI cs) (nI bd) (nI lt) (nI nt) fx fy)
                              refine lv_aload_n hx hb d_Mo_unseal_197 rfl (lv_at hl 0 rfl) ?_
                              refine gm_get (C := R_Mo) (T := F_Mo) (n := 44) hx hb htl i_Mo hown hK hP h_362 rfl 33 (by decide) (htl _ k_776) (fun _ h => h) rfl d_Mo_unseal_198 ?_
                              refine lv_iconst (v := nI 0) hx hb d_Mo_unseal_201 (by decide) ?_
                              refine gz_iald hx hb hK hP 0 h_358 rfl (by omega) (by omega) d_Mo_unseal_202 ?_
                              rw [show hd 0 = so / 256 from hhd.1]
                              refine gc_S (n := 1) [.int (nI (so / 256))] [] hx hb hml hown hts hK hN hX hP hS (c_Mo_outside (by omega)) k_956 k_957 k_10 k_958 (by decide +kernel) ⟨by decide, by decide⟩ rfl hl.1 rfl (Nat.le_of_ble_eq_true rfl) d_Mo_unseal_203 ⟨by decide, by decide⟩ (fun r N1 M_363 H locs hw hP hS => ?_)
                              obtain ⟨rfl, hw⟩ := hw
                              rcases hw with ⟨c_364, rfl, rfl⟩ | ⟨c_365, rfl, rfl⟩
                              · skip
                                refine W.eq (g2 := F0 m 206 ls [.int (nI 1)]) rfl ?_
                                refine lv_if_eq (tgt := 221) hx hb d_Mo_unseal_206 (by decide) (fun q => absurd q (by decide)) (fun _ => ?_)
                                refine lv_aload_n hx hb d_Mo_unseal_209 rfl (lv_at hl 0 rfl) ?_
                                refine gm_get (C := R_Mo) (T := F_Mo) (n := 44) hx hb htl i_Mo hown hK hP h_362 rfl 33 (by decide) (htl _ k_776) (fun _ h => h) rfl d_Mo_unseal_210 ?_
                                refine lv_iconst (v := nI 2) hx hb d_Mo_unseal_213 (by decide) ?_
                                refine gz_iald hx hb hK hP 0 h_358 rfl (by omega) (by omega) d_Mo_unseal_214 ?_
                                rw [show hd 2 = ta / 256 from hhd.2.2.1]
                                refine gc_S (n := 1) [.int (nI (ta / 256))] [] hx hb hml hown hts hK hN hX hP hS (c_Mo_inside (nI (ta / 256))) k_926 k_927 k_10 k_928 (by decide +kernel) ⟨by decide, by decide⟩ rfl hl.1 rfl (Nat.le_of_ble_eq_true rfl) d_Mo_unseal_215 ⟨by decide, by decide⟩ (fun r N1 M_366 H locs hw hP hS => ?_)
                                obtain ⟨rfl, hw⟩ := hw
                                rcases hw with ⟨c_367, rfl, rfl⟩ | ⟨c_368, rfl, rfl⟩
                                · skip
                                  refine W.eq (g2 := F0 m 218 ls [.int (nI 1)]) rfl ?_
                                  have b_369 : ta / 256 ≤ 127 := (inr_nI (by omega) (by decide)).mp c_367
                                  refine lv_if_ne (tgt := 228) hx hb d_Mo_unseal_218 (by decide) (fun _ => ?_) (fun q => absurd q (by decide))
                                  refine lv_aload_n hx hb d_Mo_unseal_228 rfl (lv_at hl 0 rfl) ?_
                                  refine lv_iconst (v := nI 0) hx hb d_Mo_unseal_229 (by decide) ?_
                                  refine lv_iload hx hb d_Mo_unseal_230 (lv_at hl 4 rfl) ?_
                                  refine lv_aload_n hx hb d_Mo_unseal_232 rfl (lv_at hl 0 rfl) ?_
                                  refine gm_get (C := R_Mo) (T := F_Mo) (n := 44) hx hb htl i_Mo hown hK hP h_362 rfl 33 (by decide) (htl _ k_776) (fun _ h => h) rfl d_Mo_unseal_233 ?_
                                  refine lv_iconst (v := nI 0) hx hb d_Mo_unseal_236 (by decide) ?_
                                  refine gz_iald hx hb hK hP 0 h_358 rfl (by omega) (by omega) d_Mo_unseal_237 ?_
                                  rw [show hd 0 = so / 256 from hhd.1]
                                  refine lv_aload_n hx hb d_Mo_unseal_238 rfl (lv_at hl 0 rfl) ?_
                                  refine gm_get (C := R_Mo) (T := F_Mo) (n := 44) hx hb htl i_Mo hown hK hP h_362 rfl 33 (by decide) (htl _ k_776) (fun _ h => h) rfl d_Mo_unseal_239 ?_
                                  refine lv_iconst (v := nI 2) hx hb d_Mo_unseal_242 (by decide) ?_
                                  refine gz_iald hx hb hK hP 0 h_358 rfl (by omega) (by omega) d_Mo_unseal_243 ?_
                                  rw [show hd 2 = ta / 256 from hhd.2.2.1]
                                  refine lv_aload_n hx hb d_Mo_unseal_244 rfl (lv_at hl 0 rfl) ?_
                                  refine gm_get (C := R_Mo) (T := F_Mo) (n := 44) hx hb htl i_Mo hown hK hP h_362 rfl 33 (by decide) (htl _ k_776) (fun _ h => h) rfl d_Mo_unseal_245 ?_
                                  refine lv_iconst (v := nI 3) hx hb d_Mo_unseal_248 (by decide) ?_
                                  refine gz_iald hx hb hK hP 0 h_358 rfl (by omega) (by omega) d_Mo_unseal_249 ?_
                                  rw [show hd 3 = ta % 256 from hhd.2.2.2]
                                  refine gc_V (q := (R_Mo, F_Mo, 44)) (n := 5) [.int (nI 0), .int (nI pr0), .int (nI (so / 256)), .int (nI (ta / 256)), .int (nI (ta % 256))] [] hx hb hml hown hts hK hN hX hP hS (c_Mo_policy (ru := ru) (lw := lw) (hw := hw) (s0 := so) (t0 := ta) h_362 h_353 h_354 h_355 h_356 h_357 hRU hU (by omega) (by omega) (by omega) (by omega) (by omega) (by omega)) rfl h_362 k_979 k_981 ks_Mo_policy k_10 k_982 (by decide +kernel) ⟨by decide, by decide⟩ rfl hl.1 rfl (Nat.le_of_ble_eq_true rfl) d_Mo_unseal_250 ⟨by decide, by decide⟩ (fun r N1 M_370 H locs hw hP hS => ?_)
                                  obtain ⟨rfl, hw⟩ := hw
                                  obtain ⟨av_371, c_372, rfl, rfl⟩ := hw
                                  refine W.eq (g2 := F0 m 253 ls [.int (nI av_371)]) rfl ?_
                                  have hp_373 := pol_F c_372
                                  have b_374 := pol_le hU c_372
                                  refine lv_iconst (v := nI 2) hx hb d_Mo_unseal_253 (by decide) ?_
                                  refine ln_eq (tgt := 264) hx hb d_Mo_unseal_254 (by decide) (by omega) (by omega) (fun c_375 => ?_) (fun c_375 => ?_)
                                  · skip
                                    refine lv_aload_n hx hb d_Mo_unseal_264 rfl (lv_at hl 0 rfl) ?_
                                    refine lv_iconst (v := nI 0) hx hb d_Mo_unseal_265 (by decide) ?_
                                    refine lv_aload_n hx hb d_Mo_unseal_266 rfl (lv_at hl 0 rfl) ?_
                                    refine gm_get (C := R_Mo) (T := F_Mo) (n := 44) hx hb htl i_Mo hown hK hP h_362 rfl 33 (by decide) (htl _ k_776) (fun _ h => h) rfl d_Mo_unseal_267 ?_
                                    refine lv_iconst (v := nI 0) hx hb d_Mo_unseal_270 (by decide) ?_
                                    refine gz_iald hx hb hK hP 0 h_358 rfl (by omega) (by omega) d_Mo_unseal_271 ?_
                                    rw [show hd 0 = so / 256 from hhd.1]
                                    refine lv_aload_n hx hb d_Mo_unseal_272 rfl (lv_at hl 0 rfl) ?_
                                    refine gm_get (C := R_Mo) (T := F_Mo) (n := 44) hx hb htl i_Mo hown hK hP h_362 rfl 33 (by decide) (htl _ k_776) (fun _ h => h) rfl d_Mo_unseal_273 ?_
                                    refine lv_iconst (v := nI 1) hx hb d_Mo_unseal_276 (by decide) ?_
                                    refine gz_iald hx hb hK hP 0 h_358 rfl (by omega) (by omega) d_Mo_unseal_277 ?_
                                    rw [show hd 1 = so % 256 from hhd.2.1]
                                    refine lv_aload_n hx hb d_Mo_unseal_278 rfl (lv_at hl 0 rfl) ?_
                                    refine gm_get (C := R_Mo) (T := F_Mo) (n := 44) hx hb htl i_Mo hown hK hP h_362 rfl 33 (by decide) (htl _ k_776) (fun _ h => h) rfl d_Mo_unseal_279 ?_
                                    refine lv_iconst (v := nI 2) hx hb d_Mo_unseal_282 (by decide) ?_
                                    refine gz_iald hx hb hK hP 0 h_358 rfl (by omega) (by omega) d_Mo_unseal_283 ?_
                                    rw [show hd 2 = ta / 256 from hhd.2.2.1]
                                    refine lv_aload_n hx hb d_Mo_unseal_284 rfl (lv_at hl 0 rfl) ?_
                                    refine gm_get (C := R_Mo) (T := F_Mo) (n := 44) hx hb htl i_Mo hown hK hP h_362 rfl 33 (by decide) (htl _ k_776) (fun _ h => h) rfl d_Mo_unseal_285 ?_
                                    refine lv_iconst (v := nI 3) hx hb d_Mo_unseal_288 (by decide) ?_
                                    refine gz_iald hx hb hK hP 0 h_358 rfl (by omega) (by omega) d_Mo_unseal_289 ?_
                                    rw [show hd 3 = ta % 256 from hhd.2.2.2]
                                    refine gc_V (q := (R_Mo, F_Mo, 44)) (n := 5) [.int (nI 0), .int (nI (so / 256)), .int (nI (so % 256)), .int (nI (ta / 256)), .int (nI (ta % 256))] [] hx hb hml hown hts hK hN hX hP hS (c_Mo_emit (nI 0) h_362 h_359) rfl h_362 k_975 k_977 ks_Mo_emit k_10 k_978 (by decide +kernel) ⟨by decide, by decide⟩ rfl hl.1 rfl (Nat.le_of_ble_eq_true rfl) d_Mo_unseal_290 ⟨by decide, by decide⟩ (fun r N1 M_376 H locs hw hP hS => ?_)
                                    obtain ⟨rfl, hw⟩ := hw
                                    obtain ⟨rfl, rfl⟩ := hw
                                    have h_377 := gm_pass (k := (h + 27)) (y := .inl (ca 0, 4, .inl (iN (eUp em (so / 256) (so % 256) (ta / 256) (ta % 256))))) h_353 (gm_ne h_353 h_359 (fun h => by simp at h))
                                    have h_378 := gm_pass (k := (h + 27)) (y := .inl (ca 0, 4, .inl (iN (eUp em (so / 256) (so % 256) (ta / 256) (ta % 256))))) h_354 (gm_ne h_354 h_359 (fun h => by simp at h))
                                    have h_379 := gm_pass (k := (h + 27)) (y := .inl (ca 0, 4, .inl (iN (eUp em (so / 256) (so % 256) (ta / 256) (ta % 256))))) h_355 (gm_ne h_355 h_359 (fun h => by simp at h))
                                    have h_380 := gm_pass (k := (h + 27)) (y := .inl (ca 0, 4, .inl (iN (eUp em (so / 256) (so % 256) (ta / 256) (ta % 256))))) h_356 (gm_ne h_356 h_359 (fun h => by simp at h))
                                    have h_381 := gm_pass (k := (h + 27)) (y := .inl (ca 0, 4, .inl (iN (eUp em (so / 256) (so % 256) (ta / 256) (ta % 256))))) h_357 (gm_ne h_357 h_359 (fun h => by simp at h))
                                    have h_382 := gm_pass (k := (h + 27)) (y := .inl (ca 0, 4, .inl (iN (eUp em (so / 256) (so % 256) (ta / 256) (ta % 256))))) h_358 (by omega)
                                    have h_383 := gm_pass (k := (h + 27)) (y := .inl (ca 0, 4, .inl (iN (eUp em (so / 256) (so % 256) (ta / 256) (ta % 256))))) h_360 (gm_ne h_360 h_359 (fun h => by simp at h))
                                    have h_384 := gm_pass (k := (h + 27)) (y := .inl (ca 0, 4, .inl (iN (eUp em (so / 256) (so % 256) (ta / 256) (ta % 256))))) h_361 (gm_ne h_361 h_359 (fun h => by simp at h))
                                    have h_385 := gm_pass (k := (h + 27)) (y := .inl (ca 0, 4, .inl (iN (eUp em (so / 256) (so % 256) (ta / 256) (ta % 256))))) h_362 (gm_ne h_362 h_359 (fun h => by cases h))
                                    have h_386 := gm_up_self (gm_up (gm_up (gm_up M (h + 24) (.inl (ca 0, 512, .inl (iN (va_up aA na (cn - 1)))))) (h + 25) (.inl (ca 0, 512, .inl (iN (va_up aS na (sq + 1)))))) h (moO h (nI le) bp (nI nr) (nI wh) (nI tl) (nI ne) (nI nf) (nI (na + 1)) (nI an) (nI tm) (nI cn) (nI cs) (nI bd) (nI lt) (nI nt) fx fy)) (h + 27) (.inl (ca 0, 4, .inl (iN (eUp em (so / 256) (so % 256) (ta / 256) (ta % 256)))))
                                    have he_387 : gm_up (gm_up (gm_up (gm_up (gm_up M (h + 24) (.inl (ca 0, 512, .inl (iN (va_up aA na (cn - 1)))))) (h + 25) (.inl (ca 0, 512, .inl (iN (va_up aS na (sq + 1)))))) h (moO h (nI le) bp (nI nr) (nI wh) (nI tl) (nI ne) (nI nf) (nI (na + 1)) (nI an) (nI tm) (nI cn) (nI cs) (nI bd) (nI lt) (nI nt) fx fy)) (h + 27) (.inl (ca 0, 4, .inl (iN (eUp em (so / 256) (so % 256) (ta / 256) (ta % 256)))))) h (moO h (nI le) bp (nI nr) (nI wh) (nI tl) (nI ne) (nI nf) (nI (na + 1)) (nI 1) (nI tm) (nI cn) (nI cs) (nI bd) (nI (lt + 1)) (nI nt) fx fy) = gm_up (gm_up (gm_up (gm_up M (h + 24) (.inl (ca 0, 512, .inl (iN (va_up aA na (cn - 1)))))) (h + 25) (.inl (ca 0, 512, .inl (iN (va_up aS na (sq + 1)))))) h (moO h (nI le) bp (nI nr) (nI wh) (nI tl) (nI ne) (nI nf) (nI (na + 1)) (nI 1) (nI tm) (nI cn) (nI cs) (nI bd) (nI (lt + 1)) (nI nt) fx fy)) (h + 27) (.inl (ca 0, 4, .inl (iN (eUp em (so / 256) (so % 256) (ta / 256) (ta % 256))))) := (gm_swap (gm_ne h_386 h_385 (fun h => by cases h))).trans (congrArg (fun Z => gm_up Z (h + 27) (.inl (ca 0, 4, .inl (iN (eUp em (so / 256) (so % 256) (ta / 256) (ta % 256)))))) (gm_up_up _ _ _ _))
                                    have hP := Eq.mp (congrArg (fun Z => gm_P D cls A N (Z) H) he_387) hP
                                    have hP : gm_P D cls A N (gm_up (gm_up (gm_up (gm_up M (h + 24) (.inl (ca 0, 512, .inl (iN (va_up aA na (cn - 1)))))) (h + 25) (.inl (ca 0, 512, .inl (iN (va_up aS na (sq + 1)))))) h (moO h (nI le) bp (nI nr) (nI wh) (nI tl) (nI ne) (nI nf) (nI (na + 1)) (nI 1) (nI tm) (nI cn) (nI cs) (nI bd) (nI (lt + 1)) (nI nt) fx fy)) (h + 27) (.inl (ca 0, 4, .inl (iN (eUp em (so / 256) (so % 256) (ta / 256) (ta % 256)))))) H := hP
                                    have h_388 := (congrFun he_387 _).symm.trans (gm_pass (k := h) (y := moO h (nI le) bp (nI nr) (nI wh) (nI tl) (nI ne) (nI nf) (nI (na + 1)) (nI 1) (nI tm) (nI cn) (nI cs) (nI bd) (nI (lt + 1)) (nI nt) fx fy) h_377 (gm_ne h_377 h_385 (fun h => by cases h)))
                                    have h_389 := (congrFun he_387 _).symm.trans (gm_pass (k := h) (y := moO h (nI le) bp (nI nr) (nI wh) (nI tl) (nI ne) (nI nf) (nI (na + 1)) (nI 1) (nI tm) (nI cn) (nI cs) (nI bd) (nI (lt + 1)) (nI nt) fx fy) h_378 (gm_ne h_378 h_385 (fun h => by cases h)))
                                    have h_390 := (congrFun he_387 _).symm.trans (gm_pass (k := h) (y := moO h (nI le) bp (nI nr) (nI wh) (nI tl) (nI ne) (nI nf) (nI (na + 1)) (nI 1) (nI tm) (nI cn) (nI cs) (nI bd) (nI (lt + 1)) (nI nt) fx fy) h_379 (gm_ne h_379 h_385 (fun h => by cases h)))
                                    have h_391 := (congrFun he_387 _).symm.trans (gm_pass (k := h) (y := moO h (nI le) bp (nI nr) (nI wh) (nI tl) (nI ne) (nI nf) (nI (na + 1)) (nI 1) (nI tm) (nI cn) (nI cs) (nI bd) (nI (lt + 1)) (nI nt) fx fy) h_380 (gm_ne h_380 h_385 (fun h => by cases h)))
                                    have h_392 := (congrFun he_387 _).symm.trans (gm_pass (k := h) (y := moO h (nI le) bp (nI nr) (nI wh) (nI tl) (nI ne) (nI nf) (nI (na + 1)) (nI 1) (nI tm) (nI cn) (nI cs) (nI bd) (nI (lt + 1)) (nI nt) fx fy) h_381 (gm_ne h_381 h_385 (fun h => by cases h)))
                                    have h_393 := (congrFun he_387 _).symm.trans (gm_pass (k := h) (y := moO h (nI le) bp (nI nr) (nI wh) (nI tl) (nI ne) (nI nf) (nI (na + 1)) (nI 1) (nI tm) (nI cn) (nI cs) (nI bd) (nI (lt + 1)) (nI nt) fx fy) h_382 (gm_ne h_382 h_385 (fun h => by cases h)))
                                    have h_394 := (congrFun he_387 _).symm.trans (gm_pass (k := h) (y := moO h (nI le) bp (nI nr) (nI wh) (nI tl) (nI ne) (nI nf) (nI (na + 1)) (nI 1) (nI tm) (nI cn) (nI cs) (nI bd) (nI (lt + 1)) (nI nt) fx fy) h_383 (gm_ne h_383 h_385 (fun h => by cases h)))
                                    have h_395 := (congrFun he_387 _).symm.trans (gm_pass (k := h) (y := moO h (nI le) bp (nI nr) (nI wh) (nI tl) (nI ne) (nI nf) (nI (na + 1)) (nI 1) (nI tm) (nI cn) (nI cs) (nI bd) (nI (lt + 1)) (nI nt) fx fy) h_384 (gm_ne h_384 h_385 (fun h => by cases h)))
                                    have h_396 := (congrFun he_387 _).symm.trans (gm_pass (k := h) (y := moO h (nI le) bp (nI nr) (nI wh) (nI tl) (nI ne) (nI nf) (nI (na + 1)) (nI 1) (nI tm) (nI cn) (nI cs) (nI bd) (nI (lt + 1)) (nI nt) fx fy) h_386 (gm_ne h_386 h_385 (fun h => by cases h)))
                                    have h_397 := (congrFun he_387 _).symm.trans (gm_up_self (gm_up (gm_up (gm_up (gm_up M (h + 24) (.inl (ca 0, 512, .inl (iN (va_up aA na (cn - 1)))))) (h + 25) (.inl (ca 0, 512, .inl (iN (va_up aS na (sq + 1)))))) h (moO h (nI le) bp (nI nr) (nI wh) (nI tl) (nI ne) (nI nf) (nI (na + 1)) (nI an) (nI tm) (nI cn) (nI cs) (nI bd) (nI lt) (nI nt) fx fy)) (h + 27) (.inl (ca 0, 4, .inl (iN (eUp em (so / 256) (so % 256) (ta / 256) (ta % 256)))))) h (moO h (nI le) bp (nI nr) (nI wh) (nI tl) (nI ne) (nI nf) (nI (na + 1)) (nI 1) (nI tm) (nI cn) (nI cs) (nI bd) (nI (lt + 1)) (nI nt) fx fy))
                                    refine W.eq (g2 := F0 m 293 ls [.int (nI 0)]) rfl ?_
                                    rw [← hQ]
                                    exact gc_iret hx hb hr hlk hP hS d_Mo_unseal_293 ⟨rfl, Or.inr ⟨sq, pr0, f0, (nI 0), (eUp em (so / 256) (so % 256) (ta / 256) (ta % 256)), (lt + 1), nt, 1, (na + 1), (va_up aA na (cn - 1)), (va_up aS na (sq + 1)), ⟨h0.1, rfl⟩, ⟨rfl, h0.2.1⟩, ⟨rfl, h0.2.2⟩, (Or.inr (Or.inl ⟨hy, ⟨by omega, rfl, by omega⟩, Or.inr (Or.inr ⟨(fun q => q.elim ((un_old (topA_le _ (fun k hk => (hacc k hk).2)) (by omega)).mp c_330) (fun ⟨z, h1, h2, h3⟩ => hno1 z (by omega) ⟨h2, h3⟩)), by omega, rfl, rfl, rfl, (by unfold seF; rw [if_neg (by omega), hp_373, if_neg (by omega)])⟩)⟩)), (Or.inl ⟨by decide, rfl, rfl, rfl⟩), h_397, h_394, h_395, h_396, (fun z q0 q1 q2 q3 => (gm_up_ne _ _ q3).trans ((gm_up_ne _ _ q0).trans ((gm_up_ne _ _ q2).trans ((gm_up_ne _ _ q1).trans (rfl))))), rfl⟩⟩
                                  · skip
                                    refine lv_aload_n hx hb d_Mo_unseal_257 rfl (lv_at hl 0 rfl) ?_
                                    refine lv_bipush (v := (-4)) hx hb d_Mo_unseal_258 (by decide) ?_
                                    refine gc_V (q := (R_Mo, F_Mo, 44)) (n := 1) [.int (-4)] [] hx hb hml hown hts hK hN hX hP hS (c_Mo_stop (-4) h_362) rfl h_362 k_959 k_961 ks_Mo_stop k_10 k_962 (by decide +kernel) ⟨by decide, by decide⟩ rfl hl.1 rfl (Nat.le_of_ble_eq_true rfl) d_Mo_unseal_260 ⟨by decide, by decide⟩ (fun r N1 M_398 H locs hw hP hS => ?_)
                                    obtain ⟨rfl, hw⟩ := hw
                                    obtain ⟨rfl, rfl⟩ := hw
                                    have he_399 : gm_up (gm_up (gm_up (gm_up M (h + 24) (.inl (ca 0, 512, .inl (iN (va_up aA na (cn - 1)))))) (h + 25) (.inl (ca 0, 512, .inl (iN (va_up aS na (sq + 1)))))) h (moO h (nI le) bp (nI nr) (nI wh) (nI tl) (nI ne) (nI nf) (nI (na + 1)) (nI an) (nI tm) (nI cn) (nI cs) (nI bd) (nI lt) (nI nt) fx fy)) h (moO h (nI le) bp (nI nr) (nI wh) (nI tl) (nI ne) (nI nf) (nI (na + 1)) (nI an) (nI tm) (nI cn) (nI cs) (nI bd) (nI lt) (nI (nt + 1)) fx fy) = gm_up (gm_up (gm_up M (h + 24) (.inl (ca 0, 512, .inl (iN (va_up aA na (cn - 1)))))) (h + 25) (.inl (ca 0, 512, .inl (iN (va_up aS na (sq + 1)))))) h (moO h (nI le) bp (nI nr) (nI wh) (nI tl) (nI ne) (nI nf) (nI (na + 1)) (nI an) (nI tm) (nI cn) (nI cs) (nI bd) (nI lt) (nI (nt + 1)) fx fy) := gm_up_up _ _ _ _
                                    have hP := Eq.mp (congrArg (fun Z => gm_P D cls A N Z H) he_399) hP
                                    have h_400 := (congrFun he_399 _).symm.trans (gm_pass (k := h) (y := moO h (nI le) bp (nI nr) (nI wh) (nI tl) (nI ne) (nI nf) (nI (na + 1)) (nI an) (nI tm) (nI cn) (nI cs) (nI bd) (nI lt) (nI (nt + 1)) fx fy) h_353 (gm_ne h_353 h_362 (fun h => by cases h)))
                                    have h_401 := (congrFun he_399 _).symm.trans (gm_pass (k := h) (y := moO h (nI le) bp (nI nr) (nI wh) (nI tl) (nI ne) (nI nf) (nI (na + 1)) (nI an) (nI tm) (nI cn) (nI cs) (nI bd) (nI lt) (nI (nt + 1)) fx fy) h_354 (gm_ne h_354 h_362 (fun h => by cases h)))
                                    have h_402 := (congrFun he_399 _).symm.trans (gm_pass (k := h) (y := moO h (nI le) bp (nI nr) (nI wh) (nI tl) (nI ne) (nI nf) (nI (na + 1)) (nI an) (nI tm) (nI cn) (nI cs) (nI bd) (nI lt) (nI (nt + 1)) fx fy) h_355 (gm_ne h_355 h_362 (fun h => by cases h)))
                                    have h_403 := (congrFun he_399 _).symm.trans (gm_pass (k := h) (y := moO h (nI le) bp (nI nr) (nI wh) (nI tl) (nI ne) (nI nf) (nI (na + 1)) (nI an) (nI tm) (nI cn) (nI cs) (nI bd) (nI lt) (nI (nt + 1)) fx fy) h_356 (gm_ne h_356 h_362 (fun h => by cases h)))
                                    have h_404 := (congrFun he_399 _).symm.trans (gm_pass (k := h) (y := moO h (nI le) bp (nI nr) (nI wh) (nI tl) (nI ne) (nI nf) (nI (na + 1)) (nI an) (nI tm) (nI cn) (nI cs) (nI bd) (nI lt) (nI (nt + 1)) fx fy) h_357 (gm_ne h_357 h_362 (fun h => by cases h)))
                                    have h_405 := (congrFun he_399 _).symm.trans (gm_pass (k := h) (y := moO h (nI le) bp (nI nr) (nI wh) (nI tl) (nI ne) (nI nf) (nI (na + 1)) (nI an) (nI tm) (nI cn) (nI cs) (nI bd) (nI lt) (nI (nt + 1)) fx fy) h_358 (gm_ne h_358 h_362 (fun h => by cases h)))
                                    have h_406 := (congrFun he_399 _).symm.trans (gm_pass (k := h) (y := moO h (nI le) bp (nI nr) (nI wh) (nI tl) (nI ne) (nI nf) (nI (na + 1)) (nI an) (nI tm) (nI cn) (nI cs) (nI bd) (nI lt) (nI (nt + 1)) fx fy) h_359 (gm_ne h_359 h_362 (fun h => by cases h)))
                                    have h_407 := (congrFun he_399 _).symm.trans (gm_pass (k := h) (y := moO h (nI le) bp (nI nr) (nI wh) (nI tl) (nI ne) (nI nf) (nI (na + 1)) (nI an) (nI tm) (nI cn) (nI cs) (nI bd) (nI lt) (nI (nt + 1)) fx fy) h_360 (gm_ne h_360 h_362 (fun h => by cases h)))
                                    have h_408 := (congrFun he_399 _).symm.trans (gm_pass (k := h) (y := moO h (nI le) bp (nI nr) (nI wh) (nI tl) (nI ne) (nI nf) (nI (na + 1)) (nI an) (nI tm) (nI cn) (nI cs) (nI bd) (nI lt) (nI (nt + 1)) fx fy) h_361 (gm_ne h_361 h_362 (fun h => by cases h)))
                                    have h_409 := (congrFun he_399 _).symm.trans (gm_up_self (gm_up (gm_up (gm_up M (h + 24) (.inl (ca 0, 512, .inl (iN (va_up aA na (cn - 1)))))) (h + 25) (.inl (ca 0, 512, .inl (iN (va_up aS na (sq + 1)))))) h (moO h (nI le) bp (nI nr) (nI wh) (nI tl) (nI ne) (nI nf) (nI (na + 1)) (nI an) (nI tm) (nI cn) (nI cs) (nI bd) (nI lt) (nI nt) fx fy)) h (moO h (nI le) bp (nI nr) (nI wh) (nI tl) (nI ne) (nI nf) (nI (na + 1)) (nI an) (nI tm) (nI cn) (nI cs) (nI bd) (nI lt) (nI (nt + 1)) fx fy))
                                    refine W.eq (g2 := F0 m 263 ls [.int (-4)]) rfl ?_
                                    rw [← hQ]
                                    exact gc_iret hx hb hr hlk hP hS d_Mo_unseal_263 ⟨rfl, Or.inr ⟨sq, pr0, f0, (-4), em, lt, (nt + 1), an, (na + 1), (va_up aA na (cn - 1)), (va_up aS na (sq + 1)), ⟨h0.1, rfl⟩, ⟨rfl, h0.2.1⟩, ⟨rfl, h0.2.2⟩, (Or.inr (Or.inl ⟨hy, ⟨by omega, rfl, by omega⟩, Or.inr (Or.inr ⟨(fun q => q.elim ((un_old (topA_le _ (fun k hk => (hacc k hk).2)) (by omega)).mp c_330) (fun ⟨z, h1, h2, h3⟩ => hno1 z (by omega) ⟨h2, h3⟩)), by omega, rfl, rfl, rfl, (by unfold seF; rw [if_neg (by omega), hp_373, if_pos (by omega)])⟩)⟩)), (Or.inr ⟨by decide, rfl, rfl, rfl⟩), h_409, h_407, h_408, h_406, (fun z q0 q1 q2 q3 => (gm_up_ne _ _ q0).trans ((gm_up_ne _ _ q2).trans ((gm_up_ne _ _ q1).trans (rfl)))), rfl⟩⟩
                                · skip
                                  refine W.eq (g2 := F0 m 218 ls [.int (nI 0)]) rfl ?_
                                  have b_410 : ¬ ta / 256 ≤ 127 := fun q => c_368 ((inr_nI (by omega) (by decide)).mpr q)
                                  refine lv_if_ne (tgt := 228) hx hb d_Mo_unseal_218 (by decide) (fun q => absurd q (by decide)) (fun _ => ?_)
                                  refine lv_aload_n hx hb d_Mo_unseal_221 rfl (lv_at hl 0 rfl) ?_
                                  refine lv_bipush (v := (-5)) hx hb d_Mo_unseal_222 (by decide) ?_
                                  refine gc_V (q := (R_Mo, F_Mo, 44)) (n := 1) [.int (-5)] [] hx hb hml hown hts hK hN hX hP hS (c_Mo_stop (-5) h_362) rfl h_362 k_959 k_961 ks_Mo_stop k_10 k_962 (by decide +kernel) ⟨by decide, by decide⟩ rfl hl.1 rfl (Nat.le_of_ble_eq_true rfl) d_Mo_unseal_224 ⟨by decide, by decide⟩ (fun r N1 M_411 H locs hw hP hS => ?_)
                                  obtain ⟨rfl, hw⟩ := hw
                                  obtain ⟨rfl, rfl⟩ := hw
                                  have he_412 : gm_up (gm_up (gm_up (gm_up M (h + 24) (.inl (ca 0, 512, .inl (iN (va_up aA na (cn - 1)))))) (h + 25) (.inl (ca 0, 512, .inl (iN (va_up aS na (sq + 1)))))) h (moO h (nI le) bp (nI nr) (nI wh) (nI tl) (nI ne) (nI nf) (nI (na + 1)) (nI an) (nI tm) (nI cn) (nI cs) (nI bd) (nI lt) (nI nt) fx fy)) h (moO h (nI le) bp (nI nr) (nI wh) (nI tl) (nI ne) (nI nf) (nI (na + 1)) (nI an) (nI tm) (nI cn) (nI cs) (nI bd) (nI lt) (nI (nt + 1)) fx fy) = gm_up (gm_up (gm_up M (h + 24) (.inl (ca 0, 512, .inl (iN (va_up aA na (cn - 1)))))) (h + 25) (.inl (ca 0, 512, .inl (iN (va_up aS na (sq + 1)))))) h (moO h (nI le) bp (nI nr) (nI wh) (nI tl) (nI ne) (nI nf) (nI (na + 1)) (nI an) (nI tm) (nI cn) (nI cs) (nI bd) (nI lt) (nI (nt + 1)) fx fy) := gm_up_up _ _ _ _
                                  have hP := Eq.mp (congrArg (fun Z => gm_P D cls A N Z H) he_412) hP
                                  have h_413 := (congrFun he_412 _).symm.trans (gm_pass (k := h) (y := moO h (nI le) bp (nI nr) (nI wh) (nI tl) (nI ne) (nI nf) (nI (na + 1)) (nI an) (nI tm) (nI cn) (nI cs) (nI bd) (nI lt) (nI (nt + 1)) fx fy) h_353 (gm_ne h_353 h_362 (fun h => by cases h)))
                                  have h_414 := (congrFun he_412 _).symm.trans (gm_pass (k := h) (y := moO h (nI le) bp (nI nr) (nI wh) (nI tl) (nI ne) (nI nf) (nI (na + 1)) (nI an) (nI tm) (nI cn) (nI cs) (nI bd) (nI lt) (nI (nt + 1)) fx fy) h_354 (gm_ne h_354 h_362 (fun h => by cases h)))
                                  have h_415 := (congrFun he_412 _).symm.trans (gm_pass (k := h) (y := moO h (nI le) bp (nI nr) (nI wh) (nI tl) (nI ne) (nI nf) (nI (na + 1)) (nI an) (nI tm) (nI cn) (nI cs) (nI bd) (nI lt) (nI (nt + 1)) fx fy) h_355 (gm_ne h_355 h_362 (fun h => by cases h)))
                                  have h_416 := (congrFun he_412 _).symm.trans (gm_pass (k := h) (y := moO h (nI le) bp (nI nr) (nI wh) (nI tl) (nI ne) (nI nf) (nI (na + 1)) (nI an) (nI tm) (nI cn) (nI cs) (nI bd) (nI lt) (nI (nt + 1)) fx fy) h_356 (gm_ne h_356 h_362 (fun h => by cases h)))
                                  have h_417 := (congrFun he_412 _).symm.trans (gm_pass (k := h) (y := moO h (nI le) bp (nI nr) (nI wh) (nI tl) (nI ne) (nI nf) (nI (na + 1)) (nI an) (nI tm) (nI cn) (nI cs) (nI bd) (nI lt) (nI (nt + 1)) fx fy) h_357 (gm_ne h_357 h_362 (fun h => by cases h)))
                                  have h_418 := (congrFun he_412 _).symm.trans (gm_pass (k := h) (y := moO h (nI le) bp (nI nr) (nI wh) (nI tl) (nI ne) (nI nf) (nI (na + 1)) (nI an) (nI tm) (nI cn) (nI cs) (nI bd) (nI lt) (nI (nt + 1)) fx fy) h_358 (gm_ne h_358 h_362 (fun h => by cases h)))
                                  have h_419 := (congrFun he_412 _).symm.trans (gm_pass (k := h) (y := moO h (nI le) bp (nI nr) (nI wh) (nI tl) (nI ne) (nI nf) (nI (na + 1)) (nI an) (nI tm) (nI cn) (nI cs) (nI bd) (nI lt) (nI (nt + 1)) fx fy) h_359 (gm_ne h_359 h_362 (fun h => by cases h)))
                                  have h_420 := (congrFun he_412 _).symm.trans (gm_pass (k := h) (y := moO h (nI le) bp (nI nr) (nI wh) (nI tl) (nI ne) (nI nf) (nI (na + 1)) (nI an) (nI tm) (nI cn) (nI cs) (nI bd) (nI lt) (nI (nt + 1)) fx fy) h_360 (gm_ne h_360 h_362 (fun h => by cases h)))
                                  have h_421 := (congrFun he_412 _).symm.trans (gm_pass (k := h) (y := moO h (nI le) bp (nI nr) (nI wh) (nI tl) (nI ne) (nI nf) (nI (na + 1)) (nI an) (nI tm) (nI cn) (nI cs) (nI bd) (nI lt) (nI (nt + 1)) fx fy) h_361 (gm_ne h_361 h_362 (fun h => by cases h)))
                                  have h_422 := (congrFun he_412 _).symm.trans (gm_up_self (gm_up (gm_up (gm_up M (h + 24) (.inl (ca 0, 512, .inl (iN (va_up aA na (cn - 1)))))) (h + 25) (.inl (ca 0, 512, .inl (iN (va_up aS na (sq + 1)))))) h (moO h (nI le) bp (nI nr) (nI wh) (nI tl) (nI ne) (nI nf) (nI (na + 1)) (nI an) (nI tm) (nI cn) (nI cs) (nI bd) (nI lt) (nI nt) fx fy)) h (moO h (nI le) bp (nI nr) (nI wh) (nI tl) (nI ne) (nI nf) (nI (na + 1)) (nI an) (nI tm) (nI cn) (nI cs) (nI bd) (nI lt) (nI (nt + 1)) fx fy))
                                  refine W.eq (g2 := F0 m 227 ls [.int (-5)]) rfl ?_
                                  rw [← hQ]
                                  exact gc_iret hx hb hr hlk hP hS d_Mo_unseal_227 ⟨rfl, Or.inr ⟨sq, pr0, f0, (-5), em, lt, (nt + 1), an, (na + 1), (va_up aA na (cn - 1)), (va_up aS na (sq + 1)), ⟨h0.1, rfl⟩, ⟨rfl, h0.2.1⟩, ⟨rfl, h0.2.2⟩, (Or.inr (Or.inl ⟨hy, ⟨by omega, rfl, by omega⟩, Or.inr (Or.inr ⟨(fun q => q.elim ((un_old (topA_le _ (fun k hk => (hacc k hk).2)) (by omega)).mp c_330) (fun ⟨z, h1, h2, h3⟩ => hno1 z (by omega) ⟨h2, h3⟩)), by omega, rfl, rfl, rfl, (by unfold seF; rw [if_pos (by omega)])⟩)⟩)), (Or.inr ⟨by decide, rfl, rfl, rfl⟩), h_422, h_420, h_421, h_419, (fun z q0 q1 q2 q3 => (gm_up_ne _ _ q0).trans ((gm_up_ne _ _ q2).trans ((gm_up_ne _ _ q1).trans (rfl)))), rfl⟩⟩
                              · skip
                                refine W.eq (g2 := F0 m 206 ls [.int (nI 0)]) rfl ?_
                                refine lv_if_eq (tgt := 221) hx hb d_Mo_unseal_206 (by decide) (fun _ => ?_) (fun q => absurd q (by decide))
                                refine lv_aload_n hx hb d_Mo_unseal_221 rfl (lv_at hl 0 rfl) ?_
                                refine lv_bipush (v := (-5)) hx hb d_Mo_unseal_222 (by decide) ?_
                                refine gc_V (q := (R_Mo, F_Mo, 44)) (n := 1) [.int (-5)] [] hx hb hml hown hts hK hN hX hP hS (c_Mo_stop (-5) h_362) rfl h_362 k_959 k_961 ks_Mo_stop k_10 k_962 (by decide +kernel) ⟨by decide, by decide⟩ rfl hl.1 rfl (Nat.le_of_ble_eq_true rfl) d_Mo_unseal_224 ⟨by decide, by decide⟩ (fun r N1 M_423 H locs hw hP hS => ?_)
                                obtain ⟨rfl, hw⟩ := hw
                                obtain ⟨rfl, rfl⟩ := hw
                                have he_424 : gm_up (gm_up (gm_up (gm_up M (h + 24) (.inl (ca 0, 512, .inl (iN (va_up aA na (cn - 1)))))) (h + 25) (.inl (ca 0, 512, .inl (iN (va_up aS na (sq + 1)))))) h (moO h (nI le) bp (nI nr) (nI wh) (nI tl) (nI ne) (nI nf) (nI (na + 1)) (nI an) (nI tm) (nI cn) (nI cs) (nI bd) (nI lt) (nI nt) fx fy)) h (moO h (nI le) bp (nI nr) (nI wh) (nI tl) (nI ne) (nI nf) (nI (na + 1)) (nI an) (nI tm) (nI cn) (nI cs) (nI bd) (nI lt) (nI (nt + 1)) fx fy) = gm_up (gm_up (gm_up M (h + 24) (.inl (ca 0, 512, .inl (iN (va_up aA na (cn - 1)))))) (h + 25) (.inl (ca 0, 512, .inl (iN (va_up aS na (sq + 1)))))) h (moO h (nI le) bp (nI nr) (nI wh) (nI tl) (nI ne) (nI nf) (nI (na + 1)) (nI an) (nI tm) (nI cn) (nI cs) (nI bd) (nI lt) (nI (nt + 1)) fx fy) := gm_up_up _ _ _ _
                                have hP := Eq.mp (congrArg (fun Z => gm_P D cls A N Z H) he_424) hP
                                have h_425 := (congrFun he_424 _).symm.trans (gm_pass (k := h) (y := moO h (nI le) bp (nI nr) (nI wh) (nI tl) (nI ne) (nI nf) (nI (na + 1)) (nI an) (nI tm) (nI cn) (nI cs) (nI bd) (nI lt) (nI (nt + 1)) fx fy) h_353 (gm_ne h_353 h_362 (fun h => by cases h)))
                                have h_426 := (congrFun he_424 _).symm.trans (gm_pass (k := h) (y := moO h (nI le) bp (nI nr) (nI wh) (nI tl) (nI ne) (nI nf) (nI (na + 1)) (nI an) (nI tm) (nI cn) (nI cs) (nI bd) (nI lt) (nI (nt + 1)) fx fy) h_354 (gm_ne h_354 h_362 (fun h => by cases h)))
                                have h_427 := (congrFun he_424 _).symm.trans (gm_pass (k := h) (y := moO h (nI le) bp (nI nr) (nI wh) (nI tl) (nI ne) (nI nf) (nI (na + 1)) (nI an) (nI tm) (nI cn) (nI cs) (nI bd) (nI lt) (nI (nt + 1)) fx fy) h_355 (gm_ne h_355 h_362 (fun h => by cases h)))
                                have h_428 := (congrFun he_424 _).symm.trans (gm_pass (k := h) (y := moO h (nI le) bp (nI nr) (nI wh) (nI tl) (nI ne) (nI nf) (nI (na + 1)) (nI an) (nI tm) (nI cn) (nI cs) (nI bd) (nI lt) (nI (nt + 1)) fx fy) h_356 (gm_ne h_356 h_362 (fun h => by cases h)))
                                have h_429 := (congrFun he_424 _).symm.trans (gm_pass (k := h) (y := moO h (nI le) bp (nI nr) (nI wh) (nI tl) (nI ne) (nI nf) (nI (na + 1)) (nI an) (nI tm) (nI cn) (nI cs) (nI bd) (nI lt) (nI (nt + 1)) fx fy) h_357 (gm_ne h_357 h_362 (fun h => by cases h)))
                                have h_430 := (congrFun he_424 _).symm.trans (gm_pass (k := h) (y := moO h (nI le) bp (nI nr) (nI wh) (nI tl) (nI ne) (nI nf) (nI (na + 1)) (nI an) (nI tm) (nI cn) (nI cs) (nI bd) (nI lt) (nI (nt + 1)) fx fy) h_358 (gm_ne h_358 h_362 (fun h => by cases h)))
                                have h_431 := (congrFun he_424 _).symm.trans (gm_pass (k := h) (y := moO h (nI le) bp (nI nr) (nI wh) (nI tl) (nI ne) (nI nf) (nI (na + 1)) (nI an) (nI tm) (nI cn) (nI cs) (nI bd) (nI lt) (nI (nt + 1)) fx fy) h_359 (gm_ne h_359 h_362 (fun h => by cases h)))
                                have h_432 := (congrFun he_424 _).symm.trans (gm_pass (k := h) (y := moO h (nI le) bp (nI nr) (nI wh) (nI tl) (nI ne) (nI nf) (nI (na + 1)) (nI an) (nI tm) (nI cn) (nI cs) (nI bd) (nI lt) (nI (nt + 1)) fx fy) h_360 (gm_ne h_360 h_362 (fun h => by cases h)))
                                have h_433 := (congrFun he_424 _).symm.trans (gm_pass (k := h) (y := moO h (nI le) bp (nI nr) (nI wh) (nI tl) (nI ne) (nI nf) (nI (na + 1)) (nI an) (nI tm) (nI cn) (nI cs) (nI bd) (nI lt) (nI (nt + 1)) fx fy) h_361 (gm_ne h_361 h_362 (fun h => by cases h)))
                                have h_434 := (congrFun he_424 _).symm.trans (gm_up_self (gm_up (gm_up (gm_up M (h + 24) (.inl (ca 0, 512, .inl (iN (va_up aA na (cn - 1)))))) (h + 25) (.inl (ca 0, 512, .inl (iN (va_up aS na (sq + 1)))))) h (moO h (nI le) bp (nI nr) (nI wh) (nI tl) (nI ne) (nI nf) (nI (na + 1)) (nI an) (nI tm) (nI cn) (nI cs) (nI bd) (nI lt) (nI nt) fx fy)) h (moO h (nI le) bp (nI nr) (nI wh) (nI tl) (nI ne) (nI nf) (nI (na + 1)) (nI an) (nI tm) (nI cn) (nI cs) (nI bd) (nI lt) (nI (nt + 1)) fx fy))
                                refine W.eq (g2 := F0 m 227 ls [.int (-5)]) rfl ?_
                                rw [← hQ]
                                exact gc_iret hx hb hr hlk hP hS d_Mo_unseal_227 ⟨rfl, Or.inr ⟨sq, pr0, f0, (-5), em, lt, (nt + 1), an, (na + 1), (va_up aA na (cn - 1)), (va_up aS na (sq + 1)), ⟨h0.1, rfl⟩, ⟨rfl, h0.2.1⟩, ⟨rfl, h0.2.2⟩, (Or.inr (Or.inl ⟨hy, ⟨by omega, rfl, by omega⟩, Or.inr (Or.inr ⟨(fun q => q.elim ((un_old (topA_le _ (fun k hk => (hacc k hk).2)) (by omega)).mp c_330) (fun ⟨z, h1, h2, h3⟩ => hno1 z (by omega) ⟨h2, h3⟩)), by omega, rfl, rfl, rfl, (by unfold seF; rw [if_pos (by omega)])⟩)⟩)), (Or.inr ⟨by decide, rfl, rfl, rfl⟩), h_434, h_432, h_433, h_431, (fun z q0 q1 q2 q3 => (gm_up_ne _ _ q0).trans ((gm_up_ne _ _ q2).trans ((gm_up_ne _ _ q1).trans (rfl)))), rfl⟩⟩
                            · skip
                              refine lv_aload_n hx hb d_Mo_unseal_160 rfl (lv_at hl 0 rfl) ?_
                              refine lv_bipush (v := (-9)) hx hb d_Mo_unseal_161 (by decide) ?_
                              refine gc_V (q := (R_Mo, F_Mo, 44)) (n := 1) [.int (-9)] [] hx hb hml hown hts hK hN hX hP hS (c_Mo_stop (-9) eh) rfl eh k_959 k_961 ks_Mo_stop k_10 k_962 (by decide +kernel) ⟨by decide, by decide⟩ rfl hl.1 rfl (Nat.le_of_ble_eq_true rfl) d_Mo_unseal_163 ⟨by decide, by decide⟩ (fun r N1 M_435 H locs hw hP hS => ?_)
                              obtain ⟨rfl, hw⟩ := hw
                              obtain ⟨rfl, rfl⟩ := hw
                              have hP : gm_P D cls A N (gm_up M h (moO h (nI le) bp (nI nr) (nI wh) (nI tl) (nI ne) (nI nf) (nI na) (nI an) (nI tm) (nI cn) (nI cs) (nI bd) (nI lt) (nI (nt + 1)) fx fy)) H := hP
                              have h_436 := gm_pass (k := h) (y := moO h (nI le) bp (nI nr) (nI wh) (nI tl) (nI ne) (nI nf) (nI na) (nI an) (nI tm) (nI cn) (nI cs) (nI bd) (nI lt) (nI (nt + 1)) fx fy) m2 (gm_ne m2 eh (fun h => by cases h))
                              have h_437 := gm_pass (k := h) (y := moO h (nI le) bp (nI nr) (nI wh) (nI tl) (nI ne) (nI nf) (nI na) (nI an) (nI tm) (nI cn) (nI cs) (nI bd) (nI lt) (nI (nt + 1)) fx fy) m3 (gm_ne m3 eh (fun h => by cases h))
                              have h_438 := gm_pass (k := h) (y := moO h (nI le) bp (nI nr) (nI wh) (nI tl) (nI ne) (nI nf) (nI na) (nI an) (nI tm) (nI cn) (nI cs) (nI bd) (nI lt) (nI (nt + 1)) fx fy) m4 (gm_ne m4 eh (fun h => by cases h))
                              have h_439 := gm_pass (k := h) (y := moO h (nI le) bp (nI nr) (nI wh) (nI tl) (nI ne) (nI nf) (nI na) (nI an) (nI tm) (nI cn) (nI cs) (nI bd) (nI lt) (nI (nt + 1)) fx fy) m5 (gm_ne m5 eh (fun h => by cases h))
                              have h_440 := gm_pass (k := h) (y := moO h (nI le) bp (nI nr) (nI wh) (nI tl) (nI ne) (nI nf) (nI na) (nI an) (nI tm) (nI cn) (nI cs) (nI bd) (nI lt) (nI (nt + 1)) fx fy) m6 (gm_ne m6 eh (fun h => by cases h))
                              have h_441 := gm_pass (k := h) (y := moO h (nI le) bp (nI nr) (nI wh) (nI tl) (nI ne) (nI nf) (nI na) (nI an) (nI tm) (nI cn) (nI cs) (nI bd) (nI lt) (nI (nt + 1)) fx fy) m24 (gm_ne m24 eh (fun h => by cases h))
                              have h_442 := gm_pass (k := h) (y := moO h (nI le) bp (nI nr) (nI wh) (nI tl) (nI ne) (nI nf) (nI na) (nI an) (nI tm) (nI cn) (nI cs) (nI bd) (nI lt) (nI (nt + 1)) fx fy) m25 (gm_ne m25 eh (fun h => by cases h))
                              have h_443 := gm_pass (k := h) (y := moO h (nI le) bp (nI nr) (nI wh) (nI tl) (nI ne) (nI nf) (nI na) (nI an) (nI tm) (nI cn) (nI cs) (nI bd) (nI lt) (nI (nt + 1)) fx fy) m26 (gm_ne m26 eh (fun h => by cases h))
                              have h_444 := gm_pass (k := h) (y := moO h (nI le) bp (nI nr) (nI wh) (nI tl) (nI ne) (nI nf) (nI na) (nI an) (nI tm) (nI cn) (nI cs) (nI bd) (nI lt) (nI (nt + 1)) fx fy) m27 (gm_ne m27 eh (fun h => by cases h))
                              have h_445 := gm_up_self M h (moO h (nI le) bp (nI nr) (nI wh) (nI tl) (nI ne) (nI nf) (nI na) (nI an) (nI tm) (nI cn) (nI cs) (nI bd) (nI lt) (nI (nt + 1)) fx fy)
                              refine W.eq (g2 := F0 m 166 ls [.int (-9)]) rfl ?_
                              rw [← hQ]
                              exact gc_iret hx hb hr hlk hP hS d_Mo_unseal_166 ⟨rfl, Or.inr ⟨sq, pr0, f0, (-9), em, lt, (nt + 1), an, na, aA, aS, ⟨h0.1, rfl⟩, ⟨rfl, h0.2.1⟩, ⟨rfl, h0.2.2⟩, (Or.inr (Or.inl ⟨hy, ⟨by omega, rfl, by omega⟩, Or.inr (Or.inl ⟨(fun q => q.elim ((un_old (topA_le _ (fun k hk => (hacc k hk).2)) (by omega)).mp c_330) (fun ⟨z, h1, h2, h3⟩ => hno1 z (by omega) ⟨h2, h3⟩)), by omega, rfl, rfl, rfl, rfl, rfl⟩)⟩)), (Or.inr ⟨by decide, rfl, rfl, rfl⟩), h_445, h_441, h_442, h_444, (fun z q0 q1 q2 q3 => (gm_up_ne _ _ q0).trans (rfl)), rfl⟩⟩
                          · skip
                            refine lv_aload_n hx hb d_Mo_unseal_121 rfl (lv_at hl 0 rfl) ?_
                            refine gm_get (C := R_Mo) (T := F_Mo) (n := 44) hx hb htl i_Mo hown hK hP eh rfl 30 (by decide) (htl _ k_773) (fun _ h => h) rfl d_Mo_unseal_122 ?_
                            refine lv_iload hx hb d_Mo_unseal_125 (lv_at hl 5 rfl) ?_
                            refine gz_iald hx hb hK hP 0 m24 rfl (by omega) (by omega) d_Mo_unseal_127 ?_
                            have hab_ := hacc i (by omega)
                            refine lv_iload_n hx hb d_Mo_unseal_128 rfl (lv_at hl 1 rfl) ?_
                            refine ln_ne (tgt := 150) hx hb d_Mo_unseal_129 (by decide) (by omega) (by omega) (fun c_446 => ?_) (fun c_446 => ?_)
                            · skip
                              refine lv_iinc (v := nI (i + 1)) (lv' := [(7, .int (nI (i + 1))), (0, .ref h), (1, .int (nI (cn - 1))), (2, .int (nI (sq + 1))), (3, .int (nI au)), (4, .int (nI pr0))]) hx hb d_Mo_unseal_150 hl (k := 5) rfl (nI_1 i) (by decide) rfl (fun ls hl => ?_)
                              refine lv_goto (tgt := 112) hx hb d_Mo_unseal_153 (by decide) ?_
                              exact ih_112 (i + 1) ls _ _ (by omega) (fun z hz => by by_cases q : z = i; subst q; omega; exact hno1 z (by omega)) (by omega) hP hS (lv_sub hl [1, 2, 3, 4, 5, 0] rfl)
                            · skip
                              refine lv_aload_n hx hb d_Mo_unseal_132 rfl (lv_at hl 0 rfl) ?_
                              refine gm_get (C := R_Mo) (T := F_Mo) (n := 44) hx hb htl i_Mo hown hK hP eh rfl 31 (by decide) (htl _ k_774) (fun _ h => h) rfl d_Mo_unseal_133 ?_
                              refine lv_iload hx hb d_Mo_unseal_136 (lv_at hl 5 rfl) ?_
                              refine gz_iald hx hb hK hP 0 m25 rfl (by omega) (by omega) d_Mo_unseal_138 ?_
                              have has_ := hacc i (by omega)
                              refine lv_iload_n hx hb d_Mo_unseal_139 rfl (lv_at hl 2 rfl) ?_
                              refine ln_ne (tgt := 150) hx hb d_Mo_unseal_140 (by decide) (by omega) (by omega) (fun c_447 => ?_) (fun c_447 => ?_)
                              · skip
                                refine lv_iinc (v := nI (i + 1)) (lv' := [(7, .int (nI (i + 1))), (0, .ref h), (1, .int (nI (cn - 1))), (2, .int (nI (sq + 1))), (3, .int (nI au)), (4, .int (nI pr0))]) hx hb d_Mo_unseal_150 hl (k := 5) rfl (nI_1 i) (by decide) rfl (fun ls hl => ?_)
                                refine lv_goto (tgt := 112) hx hb d_Mo_unseal_153 (by decide) ?_
                                exact ih_112 (i + 1) ls _ _ (by omega) (fun z hz => by by_cases q : z = i; subst q; omega; exact hno1 z (by omega)) (by omega) hP hS (lv_sub hl [1, 2, 3, 4, 5, 0] rfl)
                              · skip
                                refine lv_aload_n hx hb d_Mo_unseal_143 rfl (lv_at hl 0 rfl) ?_
                                refine lv_bipush (v := (-8)) hx hb d_Mo_unseal_144 (by decide) ?_
                                refine gc_V (q := (R_Mo, F_Mo, 44)) (n := 1) [.int (-8)] [] hx hb hml hown hts hK hN hX hP hS (c_Mo_stop (-8) eh) rfl eh k_959 k_961 ks_Mo_stop k_10 k_962 (by decide +kernel) ⟨by decide, by decide⟩ rfl hl.1 rfl (Nat.le_of_ble_eq_true rfl) d_Mo_unseal_146 ⟨by decide, by decide⟩ (fun r N1 M_448 H locs hw hP hS => ?_)
                                obtain ⟨rfl, hw⟩ := hw
                                obtain ⟨rfl, rfl⟩ := hw
                                have hP : gm_P D cls A N (gm_up M h (moO h (nI le) bp (nI nr) (nI wh) (nI tl) (nI ne) (nI nf) (nI na) (nI an) (nI tm) (nI cn) (nI cs) (nI bd) (nI lt) (nI (nt + 1)) fx fy)) H := hP
                                have h_449 := gm_pass (k := h) (y := moO h (nI le) bp (nI nr) (nI wh) (nI tl) (nI ne) (nI nf) (nI na) (nI an) (nI tm) (nI cn) (nI cs) (nI bd) (nI lt) (nI (nt + 1)) fx fy) m2 (gm_ne m2 eh (fun h => by cases h))
                                have h_450 := gm_pass (k := h) (y := moO h (nI le) bp (nI nr) (nI wh) (nI tl) (nI ne) (nI nf) (nI na) (nI an) (nI tm) (nI cn) (nI cs) (nI bd) (nI lt) (nI (nt + 1)) fx fy) m3 (gm_ne m3 eh (fun h => by cases h))
                                have h_451 := gm_pass (k := h) (y := moO h (nI le) bp (nI nr) (nI wh) (nI tl) (nI ne) (nI nf) (nI na) (nI an) (nI tm) (nI cn) (nI cs) (nI bd) (nI lt) (nI (nt + 1)) fx fy) m4 (gm_ne m4 eh (fun h => by cases h))
                                have h_452 := gm_pass (k := h) (y := moO h (nI le) bp (nI nr) (nI wh) (nI tl) (nI ne) (nI nf) (nI na) (nI an) (nI tm) (nI cn) (nI cs) (nI bd) (nI lt) (nI (nt + 1)) fx fy) m5 (gm_ne m5 eh (fun h => by cases h))
                                have h_453 := gm_pass (k := h) (y := moO h (nI le) bp (nI nr) (nI wh) (nI tl) (nI ne) (nI nf) (nI na) (nI an) (nI tm) (nI cn) (nI cs) (nI bd) (nI lt) (nI (nt + 1)) fx fy) m6 (gm_ne m6 eh (fun h => by cases h))
                                have h_454 := gm_pass (k := h) (y := moO h (nI le) bp (nI nr) (nI wh) (nI tl) (nI ne) (nI nf) (nI na) (nI an) (nI tm) (nI cn) (nI cs) (nI bd) (nI lt) (nI (nt + 1)) fx fy) m24 (gm_ne m24 eh (fun h => by cases h))
                                have h_455 := gm_pass (k := h) (y := moO h (nI le) bp (nI nr) (nI wh) (nI tl) (nI ne) (nI nf) (nI na) (nI an) (nI tm) (nI cn) (nI cs) (nI bd) (nI lt) (nI (nt + 1)) fx fy) m25 (gm_ne m25 eh (fun h => by cases h))
                                have h_456 := gm_pass (k := h) (y := moO h (nI le) bp (nI nr) (nI wh) (nI tl) (nI ne) (nI nf) (nI na) (nI an) (nI tm) (nI cn) (nI cs) (nI bd) (nI lt) (nI (nt + 1)) fx fy) m26 (gm_ne m26 eh (fun h => by cases h))
                                have h_457 := gm_pass (k := h) (y := moO h (nI le) bp (nI nr) (nI wh) (nI tl) (nI ne) (nI nf) (nI na) (nI an) (nI tm) (nI cn) (nI cs) (nI bd) (nI lt) (nI (nt + 1)) fx fy) m27 (gm_ne m27 eh (fun h => by cases h))
                                have h_458 := gm_up_self M h (moO h (nI le) bp (nI nr) (nI wh) (nI tl) (nI ne) (nI nf) (nI na) (nI an) (nI tm) (nI cn) (nI cs) (nI bd) (nI lt) (nI (nt + 1)) fx fy)
                                refine W.eq (g2 := F0 m 149 ls [.int (-8)]) rfl ?_
                                rw [← hQ]
                                exact gc_iret hx hb hr hlk hP hS d_Mo_unseal_149 ⟨rfl, Or.inr ⟨sq, pr0, f0, (-8), em, lt, (nt + 1), an, na, aA, aS, ⟨h0.1, rfl⟩, ⟨rfl, h0.2.1⟩, ⟨rfl, h0.2.2⟩, (Or.inr (Or.inl ⟨hy, ⟨by omega, rfl, by omega⟩, Or.inl ⟨Or.inr ⟨i, by omega, by omega, by omega⟩, rfl, rfl, rfl, rfl, rfl⟩⟩)), (Or.inr ⟨by decide, rfl, rfl, rfl⟩), h_458, h_454, h_455, h_457, (fun z q0 q1 q2 q3 => (gm_up_ne _ _ q0).trans (rfl)), rfl⟩⟩
                      exact loop_112 (_ + 1) 0 ls _ _ (Nat.zero_le _) (fun z hz => absurd hz (Nat.not_lt_zero _)) (Nat.lt_succ_self _) hP hS (lv_sub hl [2, 3, 4, 5, 6, 0] rfl)
                    · skip
                      refine lv_aload_n hx hb d_Mo_unseal_102 rfl (lv_at hl 1 rfl) ?_
                      refine lv_bipush (v := (-8)) hx hb d_Mo_unseal_103 (by decide) ?_
                      refine gc_V (q := (R_Mo, F_Mo, 44)) (n := 1) [.int (-8)] [] hx hb hml hown hts hK hN hX hP hS (c_Mo_stop (-8) eh) rfl eh k_959 k_961 ks_Mo_stop k_10 k_962 (by decide +kernel) ⟨by decide, by decide⟩ rfl hl.1 rfl (Nat.le_of_ble_eq_true rfl) d_Mo_unseal_105 ⟨by decide, by decide⟩ (fun r N1 M_459 H locs hw hP hS => ?_)
                      obtain ⟨rfl, hw⟩ := hw
                      obtain ⟨rfl, rfl⟩ := hw
                      have hP : gm_P D cls A N (gm_up M h (moO h (nI le) bp (nI nr) (nI wh) (nI tl) (nI ne) (nI nf) (nI na) (nI an) (nI tm) (nI cn) (nI cs) (nI bd) (nI lt) (nI (nt + 1)) fx fy)) H := hP
                      have h_460 := gm_pass (k := h) (y := moO h (nI le) bp (nI nr) (nI wh) (nI tl) (nI ne) (nI nf) (nI na) (nI an) (nI tm) (nI cn) (nI cs) (nI bd) (nI lt) (nI (nt + 1)) fx fy) m2 (gm_ne m2 eh (fun h => by cases h))
                      have h_461 := gm_pass (k := h) (y := moO h (nI le) bp (nI nr) (nI wh) (nI tl) (nI ne) (nI nf) (nI na) (nI an) (nI tm) (nI cn) (nI cs) (nI bd) (nI lt) (nI (nt + 1)) fx fy) m3 (gm_ne m3 eh (fun h => by cases h))
                      have h_462 := gm_pass (k := h) (y := moO h (nI le) bp (nI nr) (nI wh) (nI tl) (nI ne) (nI nf) (nI na) (nI an) (nI tm) (nI cn) (nI cs) (nI bd) (nI lt) (nI (nt + 1)) fx fy) m4 (gm_ne m4 eh (fun h => by cases h))
                      have h_463 := gm_pass (k := h) (y := moO h (nI le) bp (nI nr) (nI wh) (nI tl) (nI ne) (nI nf) (nI na) (nI an) (nI tm) (nI cn) (nI cs) (nI bd) (nI lt) (nI (nt + 1)) fx fy) m5 (gm_ne m5 eh (fun h => by cases h))
                      have h_464 := gm_pass (k := h) (y := moO h (nI le) bp (nI nr) (nI wh) (nI tl) (nI ne) (nI nf) (nI na) (nI an) (nI tm) (nI cn) (nI cs) (nI bd) (nI lt) (nI (nt + 1)) fx fy) m6 (gm_ne m6 eh (fun h => by cases h))
                      have h_465 := gm_pass (k := h) (y := moO h (nI le) bp (nI nr) (nI wh) (nI tl) (nI ne) (nI nf) (nI na) (nI an) (nI tm) (nI cn) (nI cs) (nI bd) (nI lt) (nI (nt + 1)) fx fy) m24 (gm_ne m24 eh (fun h => by cases h))
                      have h_466 := gm_pass (k := h) (y := moO h (nI le) bp (nI nr) (nI wh) (nI tl) (nI ne) (nI nf) (nI na) (nI an) (nI tm) (nI cn) (nI cs) (nI bd) (nI lt) (nI (nt + 1)) fx fy) m25 (gm_ne m25 eh (fun h => by cases h))
                      have h_467 := gm_pass (k := h) (y := moO h (nI le) bp (nI nr) (nI wh) (nI tl) (nI ne) (nI nf) (nI na) (nI an) (nI tm) (nI cn) (nI cs) (nI bd) (nI lt) (nI (nt + 1)) fx fy) m26 (gm_ne m26 eh (fun h => by cases h))
                      have h_468 := gm_pass (k := h) (y := moO h (nI le) bp (nI nr) (nI wh) (nI tl) (nI ne) (nI nf) (nI na) (nI an) (nI tm) (nI cn) (nI cs) (nI bd) (nI lt) (nI (nt + 1)) fx fy) m27 (gm_ne m27 eh (fun h => by cases h))
                      have h_469 := gm_up_self M h (moO h (nI le) bp (nI nr) (nI wh) (nI tl) (nI ne) (nI nf) (nI na) (nI an) (nI tm) (nI cn) (nI cs) (nI bd) (nI lt) (nI (nt + 1)) fx fy)
                      refine W.eq (g2 := F0 m 108 ls [.int (-8)]) rfl ?_
                      rw [← hQ]
                      exact gc_iret hx hb hr hlk hP hS d_Mo_unseal_108 ⟨rfl, Or.inr ⟨sq, pr0, f0, (-8), em, lt, (nt + 1), an, na, aA, aS, ⟨h0.1, rfl⟩, ⟨rfl, h0.2.1⟩, ⟨rfl, h0.2.2⟩, (Or.inr (Or.inl ⟨hy, ⟨by omega, rfl, by omega⟩, Or.inl ⟨Or.inl (Classical.byContradiction (fun q => c_330 ((un_old (topA_le _ (fun k hk => (hacc k hk).2)) (by omega)).mpr q))), rfl, rfl, rfl, rfl, rfl⟩⟩)), (Or.inr ⟨by decide, rfl, rfl, rfl⟩), h_469, h_465, h_466, h_468, (fun z q0 q1 q2 q3 => (gm_up_ne _ _ q0).trans (rfl)), rfl⟩⟩
          · skip
            exfalso; omega
        · skip
          refine W.eq (g2 := F0 m 17 ls [.int (nI 0)]) rfl ?_
          refine lv_if_eq (tgt := 32) hx hb d_Mo_unseal_17 (by decide) (fun _ => ?_) (fun q => absurd q (by decide))
          exact absurd ⟨pr0, by omega, rfl⟩ c_298
  · skip
    refine lv_iload_n hx hb d_Mo_unseal_0 rfl (lv_at hl 2 rfl) ?_
    refine lv_iconst (v := nI 1) hx hb d_Mo_unseal_1 (by decide) ?_
    refine ln_lt (tgt := 32) hx hb d_Mo_unseal_2 (by decide) (by omega) (by omega) (fun c_470 => ?_) (fun c_470 => ?_)
    · skip
      exfalso; omega
    · skip
      refine lv_iload_n hx hb d_Mo_unseal_5 rfl (lv_at hl 2 rfl) ?_
      refine lv_sipush (v := nI 9999) hx hb d_Mo_unseal_6 (by decide) ?_
      refine ln_gt (tgt := 32) hx hb d_Mo_unseal_9 (by decide) (by omega) (by omega) (fun c_471 => ?_) (fun c_471 => ?_)
      · skip
        exfalso; omega
      · skip
        refine lv_iload hx hb d_Mo_unseal_12 (lv_at hl 4 rfl) ?_
        refine gc_S (n := 1) [.int (nI pr0)] [] hx hb hml hown hts hK hN hX hP hS (c_Mo_isProtocol (nI pr0)) k_923 k_924 k_10 k_925 (by decide +kernel) ⟨by decide, by decide⟩ rfl hl.1 rfl (Nat.le_of_ble_eq_true rfl) d_Mo_unseal_14 ⟨by decide, by decide⟩ (fun r N1 M_472 H locs hw hP hS => ?_)
        obtain ⟨rfl, hw⟩ := hw
        rcases hw with ⟨c_473, rfl, rfl⟩ | ⟨c_474, rfl, rfl⟩
        · skip
          refine W.eq (g2 := F0 m 17 ls [.int (nI 1)]) rfl ?_
          refine lv_if_eq (tgt := 32) hx hb d_Mo_unseal_17 (by decide) (fun q => absurd q (by decide)) (fun _ => ?_)
          refine lv_iload hx hb d_Mo_unseal_20 (lv_at hl 5 rfl) ?_
          refine lz_lt (tgt := 32) hx hb d_Mo_unseal_22 (by decide) (by omega) ?_
          refine lv_iload hx hb d_Mo_unseal_25 (lv_at hl 5 rfl) ?_
          refine lv_bipush (v := nI 15) hx hb d_Mo_unseal_27 (by decide) ?_
          refine ln_le (tgt := 34) hx hb d_Mo_unseal_29 (by decide) (by omega) (by omega) (fun c_476 => ?_) (fun c_476 => ?_)
          · skip
            refine lv_aload_n hx hb d_Mo_unseal_34 rfl (lv_at hl 0 rfl) ?_
            refine gm_get (C := R_Mo) (T := F_Mo) (n := 44) hx hb htl i_Mo hown hK hP eh rfl 37 (by decide) (htl _ k_780) (fun _ h => h) rfl d_Mo_unseal_35 ?_
            refine lv_iconst (v := nI 1) hx hb d_Mo_unseal_38 (by decide) ?_
            refine ln_le (tgt := 67) hx hb d_Mo_unseal_39 (by decide) (by omega) (by omega) (fun c_477 => ?_) (fun c_477 => ?_)
            · skip
              refine lv_iconst (v := nI 0) hx hb d_Mo_unseal_67 (by decide) ?_
              refine lv_istore (lv' := [(6, .int (nI 0)), (0, .ref h), (1, .int y1), (2, .int (nI (sq + 1))), (3, .int (nI au)), (4, .int (nI pr0)), (5, .int (nI f0))]) hx hb d_Mo_unseal_68 hl (by decide) rfl (fun ls hl => ?_)
              refine lv_iload_n hx hb d_Mo_unseal_70 rfl (lv_at hl 2 rfl) ?_
              refine lv_aload_n hx hb d_Mo_unseal_71 rfl (lv_at hl 1 rfl) ?_
              refine gm_get (C := R_Mo) (T := F_Mo) (n := 44) hx hb htl i_Mo hown hK hP eh rfl 37 (by decide) (htl _ k_780) (fun _ h => h) rfl d_Mo_unseal_72 ?_
              refine lv_icmp_eq (tgt := 90) hx hb d_Mo_unseal_75 (by decide) (fun c_478 => ?_) (fun c_478 => ?_)
              · exact absurd c_478 hy
              · skip
                refine lv_iload hx hb d_Mo_unseal_78 (lv_at hl 0 rfl) ?_
                refine lv_if_ne (tgt := 90) hx hb d_Mo_unseal_80 (by decide) (fun q => absurd q (by decide)) (fun _ => ?_)
                refine lv_aload_n hx hb d_Mo_unseal_83 rfl (lv_at hl 1 rfl) ?_
                refine lv_bipush (v := (-10)) hx hb d_Mo_unseal_84 (by decide) ?_
                refine gc_V (q := (R_Mo, F_Mo, 44)) (n := 1) [.int (-10)] [] hx hb hml hown hts hK hN hX hP hS (c_Mo_stop (-10) eh) rfl eh k_959 k_961 ks_Mo_stop k_10 k_962 (by decide +kernel) ⟨by decide, by decide⟩ rfl hl.1 rfl (Nat.le_of_ble_eq_true rfl) d_Mo_unseal_86 ⟨by decide, by decide⟩ (fun r N1 M_479 H locs hw hP hS => ?_)
                obtain ⟨rfl, hw⟩ := hw
                obtain ⟨rfl, rfl⟩ := hw
                have hP : gm_P D cls A N (gm_up M h (moO h (nI le) bp (nI nr) (nI wh) (nI tl) (nI ne) (nI nf) (nI na) (nI an) (nI tm) (nI cn) (nI cs) (nI bd) (nI lt) (nI (nt + 1)) fx fy)) H := hP
                have h_480 := gm_pass (k := h) (y := moO h (nI le) bp (nI nr) (nI wh) (nI tl) (nI ne) (nI nf) (nI na) (nI an) (nI tm) (nI cn) (nI cs) (nI bd) (nI lt) (nI (nt + 1)) fx fy) m2 (gm_ne m2 eh (fun h => by cases h))
                have h_481 := gm_pass (k := h) (y := moO h (nI le) bp (nI nr) (nI wh) (nI tl) (nI ne) (nI nf) (nI na) (nI an) (nI tm) (nI cn) (nI cs) (nI bd) (nI lt) (nI (nt + 1)) fx fy) m3 (gm_ne m3 eh (fun h => by cases h))
                have h_482 := gm_pass (k := h) (y := moO h (nI le) bp (nI nr) (nI wh) (nI tl) (nI ne) (nI nf) (nI na) (nI an) (nI tm) (nI cn) (nI cs) (nI bd) (nI lt) (nI (nt + 1)) fx fy) m4 (gm_ne m4 eh (fun h => by cases h))
                have h_483 := gm_pass (k := h) (y := moO h (nI le) bp (nI nr) (nI wh) (nI tl) (nI ne) (nI nf) (nI na) (nI an) (nI tm) (nI cn) (nI cs) (nI bd) (nI lt) (nI (nt + 1)) fx fy) m5 (gm_ne m5 eh (fun h => by cases h))
                have h_484 := gm_pass (k := h) (y := moO h (nI le) bp (nI nr) (nI wh) (nI tl) (nI ne) (nI nf) (nI na) (nI an) (nI tm) (nI cn) (nI cs) (nI bd) (nI lt) (nI (nt + 1)) fx fy) m6 (gm_ne m6 eh (fun h => by cases h))
                have h_485 := gm_pass (k := h) (y := moO h (nI le) bp (nI nr) (nI wh) (nI tl) (nI ne) (nI nf) (nI na) (nI an) (nI tm) (nI cn) (nI cs) (nI bd) (nI lt) (nI (nt + 1)) fx fy) m24 (gm_ne m24 eh (fun h => by cases h))
                have h_486 := gm_pass (k := h) (y := moO h (nI le) bp (nI nr) (nI wh) (nI tl) (nI ne) (nI nf) (nI na) (nI an) (nI tm) (nI cn) (nI cs) (nI bd) (nI lt) (nI (nt + 1)) fx fy) m25 (gm_ne m25 eh (fun h => by cases h))
                have h_487 := gm_pass (k := h) (y := moO h (nI le) bp (nI nr) (nI wh) (nI tl) (nI ne) (nI nf) (nI na) (nI an) (nI tm) (nI cn) (nI cs) (nI bd) (nI lt) (nI (nt + 1)) fx fy) m26 (gm_ne m26 eh (fun h => by cases h))
                have h_488 := gm_pass (k := h) (y := moO h (nI le) bp (nI nr) (nI wh) (nI tl) (nI ne) (nI nf) (nI na) (nI an) (nI tm) (nI cn) (nI cs) (nI bd) (nI lt) (nI (nt + 1)) fx fy) m27 (gm_ne m27 eh (fun h => by cases h))
                have h_489 := gm_up_self M h (moO h (nI le) bp (nI nr) (nI wh) (nI tl) (nI ne) (nI nf) (nI na) (nI an) (nI tm) (nI cn) (nI cs) (nI bd) (nI lt) (nI (nt + 1)) fx fy)
                refine W.eq (g2 := F0 m 89 ls [.int (-10)]) rfl ?_
                rw [← hQ]
                exact gc_iret hx hb hr hlk hP hS d_Mo_unseal_89 ⟨rfl, Or.inr ⟨sq, pr0, f0, (-10), em, lt, (nt + 1), an, na, aA, aS, ⟨h0.1, rfl⟩, ⟨rfl, h0.2.1⟩, ⟨rfl, h0.2.2⟩, (Or.inr (Or.inr ⟨hy, (fun q => hy2 q.2.1), rfl, rfl, rfl, rfl, rfl⟩)), (Or.inr ⟨by decide, rfl, rfl, rfl⟩), h_489, h_485, h_486, h_488, (fun z q0 q1 q2 q3 => (gm_up_ne _ _ q0).trans (rfl)), rfl⟩⟩
            · skip
              refine lv_iload_n hx hb d_Mo_unseal_42 rfl (lv_at hl 1 rfl) ?_
              refine lv_aload_n hx hb d_Mo_unseal_43 rfl (lv_at hl 0 rfl) ?_
              refine gm_get (C := R_Mo) (T := F_Mo) (n := 44) hx hb htl i_Mo hown hK hP eh rfl 37 (by decide) (htl _ k_780) (fun _ h => h) rfl d_Mo_unseal_44 ?_
              refine lv_iconst (v := nI 1) hx hb d_Mo_unseal_47 (by decide) ?_
              refine lv_isub hx hb d_Mo_unseal_48 ?_
              rw [show (nI cn) - (nI 1) = nI (cn - 1) from pk_sub (by omega)]
              refine lv_icmp_ne (tgt := 67) hx hb d_Mo_unseal_49 (by decide) (fun c_490 => ?_) (fun c_490 => ?_)
              · skip
                refine lv_iconst (v := nI 0) hx hb d_Mo_unseal_67 (by decide) ?_
                refine lv_istore (lv' := [(6, .int (nI 0)), (0, .ref h), (1, .int y1), (2, .int (nI (sq + 1))), (3, .int (nI au)), (4, .int (nI pr0)), (5, .int (nI f0))]) hx hb d_Mo_unseal_68 hl (by decide) rfl (fun ls hl => ?_)
                refine lv_iload_n hx hb d_Mo_unseal_70 rfl (lv_at hl 2 rfl) ?_
                refine lv_aload_n hx hb d_Mo_unseal_71 rfl (lv_at hl 1 rfl) ?_
                refine gm_get (C := R_Mo) (T := F_Mo) (n := 44) hx hb htl i_Mo hown hK hP eh rfl 37 (by decide) (htl _ k_780) (fun _ h => h) rfl d_Mo_unseal_72 ?_
                refine lv_icmp_eq (tgt := 90) hx hb d_Mo_unseal_75 (by decide) (fun c_491 => ?_) (fun c_491 => ?_)
                · exact absurd c_491 hy
                · skip
                  refine lv_iload hx hb d_Mo_unseal_78 (lv_at hl 0 rfl) ?_
                  refine lv_if_ne (tgt := 90) hx hb d_Mo_unseal_80 (by decide) (fun q => absurd q (by decide)) (fun _ => ?_)
                  refine lv_aload_n hx hb d_Mo_unseal_83 rfl (lv_at hl 1 rfl) ?_
                  refine lv_bipush (v := (-10)) hx hb d_Mo_unseal_84 (by decide) ?_
                  refine gc_V (q := (R_Mo, F_Mo, 44)) (n := 1) [.int (-10)] [] hx hb hml hown hts hK hN hX hP hS (c_Mo_stop (-10) eh) rfl eh k_959 k_961 ks_Mo_stop k_10 k_962 (by decide +kernel) ⟨by decide, by decide⟩ rfl hl.1 rfl (Nat.le_of_ble_eq_true rfl) d_Mo_unseal_86 ⟨by decide, by decide⟩ (fun r N1 M_492 H locs hw hP hS => ?_)
                  obtain ⟨rfl, hw⟩ := hw
                  obtain ⟨rfl, rfl⟩ := hw
                  have hP : gm_P D cls A N (gm_up M h (moO h (nI le) bp (nI nr) (nI wh) (nI tl) (nI ne) (nI nf) (nI na) (nI an) (nI tm) (nI cn) (nI cs) (nI bd) (nI lt) (nI (nt + 1)) fx fy)) H := hP
                  have h_493 := gm_pass (k := h) (y := moO h (nI le) bp (nI nr) (nI wh) (nI tl) (nI ne) (nI nf) (nI na) (nI an) (nI tm) (nI cn) (nI cs) (nI bd) (nI lt) (nI (nt + 1)) fx fy) m2 (gm_ne m2 eh (fun h => by cases h))
                  have h_494 := gm_pass (k := h) (y := moO h (nI le) bp (nI nr) (nI wh) (nI tl) (nI ne) (nI nf) (nI na) (nI an) (nI tm) (nI cn) (nI cs) (nI bd) (nI lt) (nI (nt + 1)) fx fy) m3 (gm_ne m3 eh (fun h => by cases h))
                  have h_495 := gm_pass (k := h) (y := moO h (nI le) bp (nI nr) (nI wh) (nI tl) (nI ne) (nI nf) (nI na) (nI an) (nI tm) (nI cn) (nI cs) (nI bd) (nI lt) (nI (nt + 1)) fx fy) m4 (gm_ne m4 eh (fun h => by cases h))
                  have h_496 := gm_pass (k := h) (y := moO h (nI le) bp (nI nr) (nI wh) (nI tl) (nI ne) (nI nf) (nI na) (nI an) (nI tm) (nI cn) (nI cs) (nI bd) (nI lt) (nI (nt + 1)) fx fy) m5 (gm_ne m5 eh (fun h => by cases h))
                  have h_497 := gm_pass (k := h) (y := moO h (nI le) bp (nI nr) (nI wh) (nI tl) (nI ne) (nI nf) (nI na) (nI an) (nI tm) (nI cn) (nI cs) (nI bd) (nI lt) (nI (nt + 1)) fx fy) m6 (gm_ne m6 eh (fun h => by cases h))
                  have h_498 := gm_pass (k := h) (y := moO h (nI le) bp (nI nr) (nI wh) (nI tl) (nI ne) (nI nf) (nI na) (nI an) (nI tm) (nI cn) (nI cs) (nI bd) (nI lt) (nI (nt + 1)) fx fy) m24 (gm_ne m24 eh (fun h => by cases h))
                  have h_499 := gm_pass (k := h) (y := moO h (nI le) bp (nI nr) (nI wh) (nI tl) (nI ne) (nI nf) (nI na) (nI an) (nI tm) (nI cn) (nI cs) (nI bd) (nI lt) (nI (nt + 1)) fx fy) m25 (gm_ne m25 eh (fun h => by cases h))
                  have h_500 := gm_pass (k := h) (y := moO h (nI le) bp (nI nr) (nI wh) (nI tl) (nI ne) (nI nf) (nI na) (nI an) (nI tm) (nI cn) (nI cs) (nI bd) (nI lt) (nI (nt + 1)) fx fy) m26 (gm_ne m26 eh (fun h => by cases h))
                  have h_501 := gm_pass (k := h) (y := moO h (nI le) bp (nI nr) (nI wh) (nI tl) (nI ne) (nI nf) (nI na) (nI an) (nI tm) (nI cn) (nI cs) (nI bd) (nI lt) (nI (nt + 1)) fx fy) m27 (gm_ne m27 eh (fun h => by cases h))
                  have h_502 := gm_up_self M h (moO h (nI le) bp (nI nr) (nI wh) (nI tl) (nI ne) (nI nf) (nI na) (nI an) (nI tm) (nI cn) (nI cs) (nI bd) (nI lt) (nI (nt + 1)) fx fy)
                  refine W.eq (g2 := F0 m 89 ls [.int (-10)]) rfl ?_
                  rw [← hQ]
                  exact gc_iret hx hb hr hlk hP hS d_Mo_unseal_89 ⟨rfl, Or.inr ⟨sq, pr0, f0, (-10), em, lt, (nt + 1), an, na, aA, aS, ⟨h0.1, rfl⟩, ⟨rfl, h0.2.1⟩, ⟨rfl, h0.2.2⟩, (Or.inr (Or.inr ⟨hy, (fun q => hy2 q.2.1), rfl, rfl, rfl, rfl, rfl⟩)), (Or.inr ⟨by decide, rfl, rfl, rfl⟩), h_502, h_498, h_499, h_501, (fun z q0 q1 q2 q3 => (gm_up_ne _ _ q0).trans (rfl)), rfl⟩⟩
              · exact absurd c_490 hy2
          · skip
            exfalso; omega
        · skip
          refine W.eq (g2 := F0 m 17 ls [.int (nI 0)]) rfl ?_
          refine lv_if_eq (tgt := 32) hx hb d_Mo_unseal_17 (by decide) (fun _ => ?_) (fun q => absurd q (by decide))
          exact absurd ⟨pr0, by omega, rfl⟩ c_474
  · skip
    refine lv_iload_n hx hb d_Mo_unseal_0 rfl (lv_at hl 2 rfl) ?_
    refine lv_iconst (v := nI 1) hx hb d_Mo_unseal_1 (by decide) ?_
    refine lv_icmp_lt (tgt := 32) hx hb d_Mo_unseal_2 (by decide) (fun c_503 => ?_) (fun c_503 => ?_)
    · skip
      refine lv_iconst (v := (-1)) hx hb d_Mo_unseal_32 (by decide) ?_
      rw [← hQ]
      exact gc_iret hx hb hr hlk hP hS d_Mo_unseal_33 ⟨rfl, Or.inl ⟨hno, rfl, rfl⟩⟩
    · skip
      refine lv_iload_n hx hb d_Mo_unseal_5 rfl (lv_at hl 2 rfl) ?_
      refine lv_sipush (v := nI 9999) hx hb d_Mo_unseal_6 (by decide) ?_
      refine lv_icmp_gt (tgt := 32) hx hb d_Mo_unseal_9 (by decide) (fun c_504 => ?_) (fun c_504 => ?_)
      · skip
        refine lv_iconst (v := (-1)) hx hb d_Mo_unseal_32 (by decide) ?_
        rw [← hQ]
        exact gc_iret hx hb hr hlk hP hS d_Mo_unseal_33 ⟨rfl, Or.inl ⟨hno, rfl, rfl⟩⟩
      · skip
        refine lv_iload hx hb d_Mo_unseal_12 (lv_at hl 4 rfl) ?_
        refine gc_S (n := 1) [.int y4] [] hx hb hml hown hts hK hN hX hP hS (c_Mo_isProtocol y4) k_923 k_924 k_10 k_925 (by decide +kernel) ⟨by decide, by decide⟩ rfl hl.1 rfl (Nat.le_of_ble_eq_true rfl) d_Mo_unseal_14 ⟨by decide, by decide⟩ (fun r N1 M_505 H locs hw hP hS => ?_)
        obtain ⟨rfl, hw⟩ := hw
        rcases hw with ⟨c_506, rfl, rfl⟩ | ⟨c_507, rfl, rfl⟩
        · skip
          refine W.eq (g2 := F0 m 17 ls [.int (nI 1)]) rfl ?_
          refine lv_if_eq (tgt := 32) hx hb d_Mo_unseal_17 (by decide) (fun q => absurd q (by decide)) (fun _ => ?_)
          refine lv_iload hx hb d_Mo_unseal_20 (lv_at hl 5 rfl) ?_
          refine lv_if_lt (tgt := 32) hx hb d_Mo_unseal_22 (by decide) (fun c_508 => ?_) (fun c_508 => ?_)
          · skip
            refine lv_iconst (v := (-1)) hx hb d_Mo_unseal_32 (by decide) ?_
            rw [← hQ]
            exact gc_iret hx hb hr hlk hP hS d_Mo_unseal_33 ⟨rfl, Or.inl ⟨hno, rfl, rfl⟩⟩
          · skip
            refine lv_iload hx hb d_Mo_unseal_25 (lv_at hl 5 rfl) ?_
            refine lv_bipush (v := nI 15) hx hb d_Mo_unseal_27 (by decide) ?_
            refine lv_icmp_le (tgt := 34) hx hb d_Mo_unseal_29 (by decide) (fun c_509 => ?_) (fun c_509 => ?_)
            · skip
              exact absurd ⟨lift_sq c_503 c_504, c_506, in_lift (by decide) ⟨c_508, Int32.not_lt.mpr c_509⟩⟩ hno
            · skip
              refine lv_iconst (v := (-1)) hx hb d_Mo_unseal_32 (by decide) ?_
              rw [← hQ]
              exact gc_iret hx hb hr hlk hP hS d_Mo_unseal_33 ⟨rfl, Or.inl ⟨hno, rfl, rfl⟩⟩
        · skip
          refine W.eq (g2 := F0 m 17 ls [.int (nI 0)]) rfl ?_
          refine lv_if_eq (tgt := 32) hx hb d_Mo_unseal_17 (by decide) (fun _ => ?_) (fun q => absurd q (by decide))
          refine lv_iconst (v := (-1)) hx hb d_Mo_unseal_32 (by decide) ?_
          rw [← hQ]
          exact gc_iret hx hb hr hlk hP hS d_Mo_unseal_33 ⟨rfl, Or.inl ⟨hno, rfl, rfl⟩⟩
set_option maxHeartbeats 4000000 in
set_option maxRecDepth 100000 in
theorem c_Mo_outward (y y2 : Int32) {h le nr tl ne nf na an tm cn cs bd lt nt wh : Nat} {bp fx fy : Int32} {ma : Nat → Nat} {mw : Nat → Nat} {mp : Nat → Nat} {ml : Nat → Nat} {mh : Nat → Nat} {hd : Nat → Nat} {em : Nat → Nat} {me : Nat → Nat → Nat} {mq : Nat → Nat → Nat} {pp po pi : Nat → Nat} {fl : Nat → Nat → Nat} {ru lw hw : Nat → Nat → Nat} {so ta : Nat} (eh : M h = some (moO h (nI le) bp (nI nr) (nI wh) (nI tl) (nI ne) (nI nf) (nI na) (nI an) (nI tm) (nI cn) (nI cs) (nI bd) (nI lt) (nI nt) fx fy)) (m2 : M (h + 2) = some (.inl (ca 0, 17, .inl (iN ma)))) (m3 : M (h + 3) = some (.inl (ca 0, 17, .inl (iN mw)))) (m4 : M (h + 4) = some (.inl (ca 0, 17, .inl (iN mp)))) (m5 : M (h + 5) = some (.inl (ca 0, 51, .inl (iN ml)))) (m6 : M (h + 6) = some (.inl (ca 0, 51, .inl (iN mh)))) (m26 : M (h + 26) = some (.inl (ca 0, 4, .inl (iN hd)))) (m27 : M (h + 27) = some (.inl (ca 0, 4, .inl (iN em)))) (m10 : M (h + 10) = some (.inl (ca 0, 5, .inl (iN (me 0))))) (m11 : M (h + 11) = some (.inl (ca 0, 5, .inl (iN (me 1))))) (m12 : M (h + 12) = some (.inl (ca 0, 5, .inl (iN (me 2))))) (m13 : M (h + 13) = some (.inl (ca 0, 5, .inl (iN (me 3))))) (m14 : M (h + 14) = some (.inl (ca 0, 17, .inl (iN (mq 0))))) (m15 : M (h + 15) = some (.inl (ca 0, 17, .inl (iN (mq 1))))) (m16 : M (h + 16) = some (.inl (ca 0, 17, .inl (iN (mq 2))))) (m17 : M (h + 17) = some (.inl (ca 0, 17, .inl (iN (mq 3))))) (m18 : M (h + 18) = some (.inl (ca 0, 17, .inl (iN (mq 4))))) (m19 : M (h + 19) = some (.inl (ca 0, 17, .inl (iN (mq 5))))) (m20 : M (h + 20) = some (.inl (ca 0, 17, .inl (iN (mq 6))))) (m21 : M (h + 21) = some (.inl (ca 0, 17, .inl (iN (mq 7))))) (m22 : M (h + 22) = some (.inl (ca 0, 17, .inl (iN (mq 8))))) (m23 : M (h + 23) = some (.inl (ca 0, 17, .inl (iN (mq 9))))) (hRE : relE ne pp po pi me) (hne : ne ≤ 4) (hpp : ∀ k, pp k < 65536) (hpo : ∀ k, po k < 65536) (hpi : ∀ k, pi k < 65536) (hRF : relF nf fl mq) (hnf : nf ≤ 16) (hF : okF fl) (hRU : relU nr ru lw hw ma mw mp ml mh) (hU : okU nr ru lw hw) (hnr : nr ≤ 16) (hhd : hd 0 = so / 256 ∧ hd 1 = so % 256 ∧ hd 2 = ta / 256 ∧ hd 3 = ta % 256) (hso : so < 65536) (hta : ta < 65536) (hT : triC ne pp po pi nf fl) (hst : ∀ i, i < nf → fl i 5 ≤ tm ∧ 1 ≤ fl i 4 ∧ (fl i 0 = 0 → fl i 4 ≤ 5)) (hp3 : ∀ k, k < nf → fl k 3 ≤ 111) (hpo9 : ∀ k, k < ne → po k ≤ 99) (htm : tm < 600000) (hcs0 : cs ≤ 40) (hcn : cn < 600000) : gC l D ca A G y_Mo_outward (.code y_Mo_outward b_Mo_outward 6 (some .int)) ({ frames := 2, cells := 0, slots := 0, locals := 52 }) N M [.ref h, .int y, .int y2] gm_i (fun (r : Int32) (N1 : Nat) (M1 : gm_M) => N = N1 ∧ (((¬ (inr y 2 ∧ inr y2 15)) ∧ M = M1 ∧ (-1) = r) ∨ (∃ (pr0 : Nat) (f0 : Nat) (r0 : Int32) (fl1 : Nat → Nat → Nat) (n1 : Nat) (em1 : Nat → Nat) (cs1 : Nat) (lt1 : Nat) (nt1 : Nat) (an1 : Nat) (mq1 : Nat → Nat → Nat) (u1 : Int32) (u2 : Int32), (y = nI pr0 ∧ pr0 ≤ 2) ∧ (y2 = nI f0 ∧ f0 ≤ 15) ∧ (outF ne pp po pi nr ru lw hw nf fl em cn cs so ta tm pr0 f0 = (r0, fl1, n1, em1, cs1)) ∧ (relF n1 fl1 mq1) ∧ ((¬ r0 < 0 ∧ lt1 = lt + 1 ∧ nt1 = nt ∧ an1 = 1) ∨ (r0 < 0 ∧ lt1 = lt ∧ nt1 = nt + 1 ∧ an1 = an)) ∧ M1 h = some (moO h (nI le) bp (nI nr) (nI wh) (nI tl) (nI ne) (nI n1) (nI na) (nI an1) (nI tm) (nI cn) (nI cs1) (nI bd) (nI lt1) (nI nt1) u1 u2) ∧ M1 (h + 14) = some (.inl (ca 0, 17, .inl (iN (mq1 0)))) ∧ M1 (h + 15) = some (.inl (ca 0, 17, .inl (iN (mq1 1)))) ∧ M1 (h + 16) = some (.inl (ca 0, 17, .inl (iN (mq1 2)))) ∧ M1 (h + 17) = some (.inl (ca 0, 17, .inl (iN (mq1 3)))) ∧ M1 (h + 18) = some (.inl (ca 0, 17, .inl (iN (mq1 4)))) ∧ M1 (h + 19) = some (.inl (ca 0, 17, .inl (iN (mq1 5)))) ∧ M1 (h + 20) = some (.inl (ca 0, 17, .inl (iN (mq1 6)))) ∧ M1 (h + 21) = some (.inl (ca 0, 17, .inl (iN (mq1 7)))) ∧ M1 (h + 22) = some (.inl (ca 0, 17, .inl (iN (mq1 8)))) ∧ M1 (h + 23) = some (.inl (ca 0, 17, .inl (iN (mq1 9)))) ∧ M1 (h + 27) = some (.inl (ca 0, 4, .inl (iN em1))) ∧ (∀ z, z ≠ h → z ≠ (h + 14) → z ≠ (h + 15) → z ≠ (h + 16) → z ≠ (h + 17) → z ≠ (h + 18) → z ≠ (h + 19) → z ≠ (h + 20) → z ≠ (h + 21) → z ≠ (h + 22) → z ≠ (h + 23) → z ≠ (h + 27) → M1 z = M z) ∧ r0 = r))) := by
  refine gm_body (by decide) (Nat.le_of_ble_eq_true rfl) (fun p e s m below meth c ls hx hb hr hts hown hlk hml hnm hP hK hN hX hS hl => ?_)
  have htl : ∀ w ∈ LW, w.before _ s = true := fun w h => hts w (List.mem_cons_of_mem _ h)
  have hown : s.vm.findClass "PacketGateModel" = some m.cls := hown
  have hl : lv_has ls 6 [(0, .ref h), (1, .int y), (2, .int y2)] := hl
  generalize hQ : MQ below _ _ s _ _ A = Q
  rcases Classical.em (inr y 2 ∧ inr y2 15) with ⟨⟨pr0, hpr0, rfl⟩, ⟨f0, hf0, rfl⟩⟩ | hno
  · skip
    refine lv_iload_n hx hb d_Mo_outward_0 rfl (lv_at hl 1 rfl) ?_
    refine gc_S (n := 1) [.int (nI pr0)] [] hx hb hml hown hts hK hN hX hP hS (c_Mo_isProtocol (nI pr0)) k_923 k_924 k_10 k_925 (by decide +kernel) ⟨by decide, by decide⟩ rfl hl.1 rfl (Nat.le_of_ble_eq_true rfl) d_Mo_outward_1 ⟨by decide, by decide⟩ (fun r N1 M_1 H locs hw hP hS => ?_)
    obtain ⟨rfl, hw⟩ := hw
    rcases hw with ⟨c_2, rfl, rfl⟩ | ⟨c_3, rfl, rfl⟩
    · skip
      refine W.eq (g2 := F0 m 4 ls [.int (nI 1)]) rfl ?_
      refine lv_if_eq (tgt := 17) hx hb d_Mo_outward_4 (by decide) (fun q => absurd q (by decide)) (fun _ => ?_)
      refine lv_iload_n hx hb d_Mo_outward_7 rfl (lv_at hl 2 rfl) ?_
      refine lz_lt (tgt := 17) hx hb d_Mo_outward_8 (by decide) (by omega) ?_
      refine lv_iload_n hx hb d_Mo_outward_11 rfl (lv_at hl 2 rfl) ?_
      refine lv_bipush (v := nI 15) hx hb d_Mo_outward_12 (by decide) ?_
      refine ln_le (tgt := 19) hx hb d_Mo_outward_14 (by decide) (by omega) (by omega) (fun c_5 => ?_) (fun c_5 => ?_)
      · skip
        refine lv_aload_n hx hb d_Mo_outward_19 rfl (lv_at hl 0 rfl) ?_
        refine gm_get (C := R_Mo) (T := F_Mo) (n := 44) hx hb htl i_Mo hown hK hP eh rfl 33 (by decide) (htl _ k_776) (fun _ h => h) rfl d_Mo_outward_20 ?_
        refine lv_iconst (v := nI 0) hx hb d_Mo_outward_23 (by decide) ?_
        refine gz_iald hx hb hK hP 0 m26 rfl (by omega) (by omega) d_Mo_outward_24 ?_
        rw [show hd 0 = so / 256 from hhd.1]
        refine gc_S (n := 1) [.int (nI (so / 256))] [] hx hb hml hown hts hK hN hX hP hS (c_Mo_inside (nI (so / 256))) k_926 k_927 k_10 k_928 (by decide +kernel) ⟨by decide, by decide⟩ rfl hl.1 rfl (Nat.le_of_ble_eq_true rfl) d_Mo_outward_25 ⟨by decide, by decide⟩ (fun r N1 M_6 H locs hw hP hS => ?_)
        obtain ⟨rfl, hw⟩ := hw
        rcases hw with ⟨c_7, rfl, rfl⟩ | ⟨c_8, rfl, rfl⟩
        · skip
          refine W.eq (g2 := F0 m 28 ls [.int (nI 1)]) rfl ?_
          have b_9 : so / 256 ≤ 127 := (inr_nI (by omega) (by decide)).mp c_7
          refine lv_if_eq (tgt := 43) hx hb d_Mo_outward_28 (by decide) (fun q => absurd q (by decide)) (fun _ => ?_)
          refine lv_aload_n hx hb d_Mo_outward_31 rfl (lv_at hl 0 rfl) ?_
          refine gm_get (C := R_Mo) (T := F_Mo) (n := 44) hx hb htl i_Mo hown hK hP eh rfl 33 (by decide) (htl _ k_776) (fun _ h => h) rfl d_Mo_outward_32 ?_
          refine lv_iconst (v := nI 2) hx hb d_Mo_outward_35 (by decide) ?_
          refine gz_iald hx hb hK hP 0 m26 rfl (by omega) (by omega) d_Mo_outward_36 ?_
          rw [show hd 2 = ta / 256 from hhd.2.2.1]
          refine gc_S (n := 1) [.int (nI (ta / 256))] [] hx hb hml hown hts hK hN hX hP hS (c_Mo_outside (by omega)) k_956 k_957 k_10 k_958 (by decide +kernel) ⟨by decide, by decide⟩ rfl hl.1 rfl (Nat.le_of_ble_eq_true rfl) d_Mo_outward_37 ⟨by decide, by decide⟩ (fun r N1 M_10 H locs hw hP hS => ?_)
          obtain ⟨rfl, hw⟩ := hw
          rcases hw with ⟨c_11, rfl, rfl⟩ | ⟨c_12, rfl, rfl⟩
          · skip
            refine W.eq (g2 := F0 m 40 ls [.int (nI 1)]) rfl ?_
            refine lv_if_ne (tgt := 50) hx hb d_Mo_outward_40 (by decide) (fun _ => ?_) (fun q => absurd q (by decide))
            refine lv_aload_n hx hb d_Mo_outward_50 rfl (lv_at hl 0 rfl) ?_
            refine lv_iload_n hx hb d_Mo_outward_51 rfl (lv_at hl 1 rfl) ?_
            refine lv_aload_n hx hb d_Mo_outward_52 rfl (lv_at hl 0 rfl) ?_
            refine gm_get (C := R_Mo) (T := F_Mo) (n := 44) hx hb htl i_Mo hown hK hP eh rfl 33 (by decide) (htl _ k_776) (fun _ h => h) rfl d_Mo_outward_53 ?_
            refine lv_iconst (v := nI 0) hx hb d_Mo_outward_56 (by decide) ?_
            refine gz_iald hx hb hK hP 0 m26 rfl (by omega) (by omega) d_Mo_outward_57 ?_
            rw [show hd 0 = so / 256 from hhd.1]
            refine lv_aload_n hx hb d_Mo_outward_58 rfl (lv_at hl 0 rfl) ?_
            refine gm_get (C := R_Mo) (T := F_Mo) (n := 44) hx hb htl i_Mo hown hK hP eh rfl 33 (by decide) (htl _ k_776) (fun _ h => h) rfl d_Mo_outward_59 ?_
            refine lv_iconst (v := nI 1) hx hb d_Mo_outward_62 (by decide) ?_
            refine gz_iald hx hb hK hP 0 m26 rfl (by omega) (by omega) d_Mo_outward_63 ?_
            rw [show hd 1 = so % 256 from hhd.2.1]
            refine lv_aload_n hx hb d_Mo_outward_64 rfl (lv_at hl 0 rfl) ?_
            refine gm_get (C := R_Mo) (T := F_Mo) (n := 44) hx hb htl i_Mo hown hK hP eh rfl 33 (by decide) (htl _ k_776) (fun _ h => h) rfl d_Mo_outward_65 ?_
            refine lv_iconst (v := nI 2) hx hb d_Mo_outward_68 (by decide) ?_
            refine gz_iald hx hb hK hP 0 m26 rfl (by omega) (by omega) d_Mo_outward_69 ?_
            rw [show hd 2 = ta / 256 from hhd.2.2.1]
            refine lv_aload_n hx hb d_Mo_outward_70 rfl (lv_at hl 0 rfl) ?_
            refine gm_get (C := R_Mo) (T := F_Mo) (n := 44) hx hb htl i_Mo hown hK hP eh rfl 33 (by decide) (htl _ k_776) (fun _ h => h) rfl d_Mo_outward_71 ?_
            refine lv_iconst (v := nI 3) hx hb d_Mo_outward_74 (by decide) ?_
            refine gz_iald hx hb hK hP 0 m26 rfl (by omega) (by omega) d_Mo_outward_75 ?_
            rw [show hd 3 = ta % 256 from hhd.2.2.2]
            refine gc_V (q := (R_Mo, F_Mo, 44)) (n := 5) [.int (nI pr0), .int (nI (so / 256)), .int (nI (so % 256)), .int (nI (ta / 256)), .int (nI (ta % 256))] [] hx hb hml hown hts hK hN hX hP hS (c_Mo_flowOf (fl := fl) (i0 := so) (o0 := ta) eh m14 m15 m16 m17 m18 m19 m20 m21 m22 m23 hRF (by omega) hF (by omega) (by omega) (by omega) (by omega)) rfl eh k_963 k_965 ks_Mo_flowOf k_10 k_966 (by decide +kernel) ⟨by decide, by decide⟩ rfl hl.1 rfl (Nat.le_of_ble_eq_true rfl) d_Mo_outward_76 ⟨by decide, by decide⟩ (fun r N1 M_13 H locs hw hP hS => ?_)
            obtain ⟨rfl, hw⟩ := hw
            rcases hw with ⟨kv_14, c_15, c_16, rfl, rfl⟩ | ⟨c_17, rfl, rfl⟩
            · skip
              refine W.eq (g2 := F0 m 79 ls [.int (nI kv_14)]) rfl ?_
              have hk_18 := (ffP_sat c_15).2
              refine lv_istore_n (lv' := [(3, .int (nI kv_14)), (0, .ref h), (1, .int (nI pr0)), (2, .int (nI f0))]) hx hb d_Mo_outward_79 rfl hl (by decide) rfl (fun ls hl => ?_)
              refine lv_aload_n hx hb d_Mo_outward_80 rfl (lv_at hl 1 rfl) ?_
              refine lv_iload_n hx hb d_Mo_outward_81 rfl (lv_at hl 2 rfl) ?_
              refine lv_aload_n hx hb d_Mo_outward_82 rfl (lv_at hl 1 rfl) ?_
              refine gm_get (C := R_Mo) (T := F_Mo) (n := 44) hx hb htl i_Mo hown hK hP eh rfl 33 (by decide) (htl _ k_776) (fun _ h => h) rfl d_Mo_outward_83 ?_
              refine lv_iconst (v := nI 0) hx hb d_Mo_outward_86 (by decide) ?_
              refine gz_iald hx hb hK hP 0 m26 rfl (by omega) (by omega) d_Mo_outward_87 ?_
              rw [show hd 0 = so / 256 from hhd.1]
              refine lv_aload_n hx hb d_Mo_outward_88 rfl (lv_at hl 1 rfl) ?_
              refine gm_get (C := R_Mo) (T := F_Mo) (n := 44) hx hb htl i_Mo hown hK hP eh rfl 33 (by decide) (htl _ k_776) (fun _ h => h) rfl d_Mo_outward_89 ?_
              refine lv_iconst (v := nI 1) hx hb d_Mo_outward_92 (by decide) ?_
              refine gz_iald hx hb hK hP 0 m26 rfl (by omega) (by omega) d_Mo_outward_93 ?_
              rw [show hd 1 = so % 256 from hhd.2.1]
              refine gc_V (q := (R_Mo, F_Mo, 44)) (n := 3) [.int (nI pr0), .int (nI (so / 256)), .int (nI (so % 256))] [] hx hb hml hown hts hK hN hX hP hS (c_Mo_portOf (pp := pp) (po := po) (pi := pi) (fl := fl) (b0 := so) eh m10 m11 m12 m13 m14 m15 m16 m17 m18 m19 m20 m21 m22 m23 hRE (by omega) hpp hpo hpi hRF (by omega) hF (by omega) (by omega) (by omega)) rfl eh k_936 k_938 ks_Mo_portOf k_10 k_939 (by decide +kernel) ⟨by decide, by decide⟩ rfl hl.1 rfl (Nat.le_of_ble_eq_true rfl) d_Mo_outward_94 ⟨by decide, by decide⟩ (fun r N1 M_19 H locs hw hP hS => ?_)
              obtain ⟨rfl, hw⟩ := hw
              rcases hw with ⟨vv_20, c_21, c_22, rfl, rfl⟩ | ⟨c_23, rfl, rfl⟩
              · skip
                refine W.eq (g2 := F0 m 97 ls [.int (nI vv_20)]) rfl ?_
                have hv_24 : fl kv_14 3 = vv_20 := Option.some.inj ((mpP_tri hT (k := kv_14) (by omega) hk_18.1 hk_18.2.1).symm.trans c_21)
                subst hv_24
                have b_25 := hp3 kv_14 (by omega)
                refine lv_istore (lv' := [(4, .int (nI (fl kv_14 3))), (3, .int (nI kv_14)), (0, .ref h), (1, .int (nI pr0)), (2, .int (nI f0))]) hx hb d_Mo_outward_97 hl (by decide) rfl (fun ls hl => ?_)
                refine lv_iload_n hx hb d_Mo_outward_99 rfl (lv_at hl 1 rfl) ?_
                refine lz_lt (tgt := 145) hx hb d_Mo_outward_100 (by decide) (by omega) ?_
                refine lv_aload_n hx hb d_Mo_outward_103 rfl (lv_at hl 2 rfl) ?_
                refine lv_iload_n hx hb d_Mo_outward_104 rfl (lv_at hl 1 rfl) ?_
                refine lv_iconst (v := nI 0) hx hb d_Mo_outward_105 (by decide) ?_
                refine lv_iload_n hx hb d_Mo_outward_106 rfl (lv_at hl 4 rfl) ?_
                refine gc_V (q := (R_Mo, F_Mo, 44)) (n := 3) [.int (nI kv_14), .int (nI 0), .int (nI f0)] [] hx hb hml hown hts hK hN hX hP hS (c_Mo_packet (fl := fl) eh m14 m15 m16 m17 m18 m19 m20 m21 m22 m23 hRF (by omega) hF (by omega) (by omega) (by omega) (by omega) ((hst kv_14 (by omega)).2)) rfl eh k_967 k_969 ks_Mo_packet k_10 k_970 (by decide +kernel) ⟨by decide, by decide⟩ rfl hl.1 rfl (Nat.le_of_ble_eq_true rfl) d_Mo_outward_107 ⟨by decide, by decide⟩ (fun r N1 M_27 H locs hw hP hS => ?_)
                obtain ⟨rfl, hw⟩ := hw
                rcases hw with ⟨c_28, rfl, rfl⟩ | ⟨fl1v_29, n1v_30, mq1v_31, c_32, c_33, c_34, c_35, h_36, h_37, h_38, h_39, h_40, h_41, h_42, h_43, h_44, h_45, h_46, hfr_47, rfl⟩
                · skip
                  refine W.eq (g2 := F0 m 110 ls [.int (nI 0)]) rfl ?_
                  have hfl_48 : flS fl nf kv_14 1 f0 tm = none := c_28
                  refine lv_if_eq (tgt := 138) hx hb d_Mo_outward_110 (by decide) (fun _ => ?_) (fun q => absurd q (by decide))
                  refine lv_aload_n hx hb d_Mo_outward_138 rfl (lv_at hl 2 rfl) ?_
                  refine lv_bipush (v := (-6)) hx hb d_Mo_outward_139 (by decide) ?_
                  refine gc_V (q := (R_Mo, F_Mo, 44)) (n := 1) [.int (-6)] [] hx hb hml hown hts hK hN hX hP hS (c_Mo_stop (-6) eh) rfl eh k_959 k_961 ks_Mo_stop k_10 k_962 (by decide +kernel) ⟨by decide, by decide⟩ rfl hl.1 rfl (Nat.le_of_ble_eq_true rfl) d_Mo_outward_141 ⟨by decide, by decide⟩ (fun r N1 M_49 H locs hw hP hS => ?_)
                  obtain ⟨rfl, hw⟩ := hw
                  obtain ⟨rfl, rfl⟩ := hw
                  have hP : gm_P D cls A N (gm_up M h (moO h (nI le) bp (nI nr) (nI wh) (nI tl) (nI ne) (nI nf) (nI na) (nI an) (nI tm) (nI cn) (nI cs) (nI bd) (nI lt) (nI (nt + 1)) fx fy)) H := hP
                  have h_50 := gm_pass (k := h) (y := moO h (nI le) bp (nI nr) (nI wh) (nI tl) (nI ne) (nI nf) (nI na) (nI an) (nI tm) (nI cn) (nI cs) (nI bd) (nI lt) (nI (nt + 1)) fx fy) m2 (gm_ne m2 eh (fun h => by cases h))
                  have h_51 := gm_pass (k := h) (y := moO h (nI le) bp (nI nr) (nI wh) (nI tl) (nI ne) (nI nf) (nI na) (nI an) (nI tm) (nI cn) (nI cs) (nI bd) (nI lt) (nI (nt + 1)) fx fy) m3 (gm_ne m3 eh (fun h => by cases h))
                  have h_52 := gm_pass (k := h) (y := moO h (nI le) bp (nI nr) (nI wh) (nI tl) (nI ne) (nI nf) (nI na) (nI an) (nI tm) (nI cn) (nI cs) (nI bd) (nI lt) (nI (nt + 1)) fx fy) m4 (gm_ne m4 eh (fun h => by cases h))
                  have h_53 := gm_pass (k := h) (y := moO h (nI le) bp (nI nr) (nI wh) (nI tl) (nI ne) (nI nf) (nI na) (nI an) (nI tm) (nI cn) (nI cs) (nI bd) (nI lt) (nI (nt + 1)) fx fy) m5 (gm_ne m5 eh (fun h => by cases h))
                  have h_54 := gm_pass (k := h) (y := moO h (nI le) bp (nI nr) (nI wh) (nI tl) (nI ne) (nI nf) (nI na) (nI an) (nI tm) (nI cn) (nI cs) (nI bd) (nI lt) (nI (nt + 1)) fx fy) m6 (gm_ne m6 eh (fun h => by cases h))
                  have h_55 := gm_pass (k := h) (y := moO h (nI le) bp (nI nr) (nI wh) (nI tl) (nI ne) (nI nf) (nI na) (nI an) (nI tm) (nI cn) (nI cs) (nI bd) (nI lt) (nI (nt + 1)) fx fy) m26 (gm_ne m26 eh (fun h => by cases h))
                  have h_56 := gm_pass (k := h) (y := moO h (nI le) bp (nI nr) (nI wh) (nI tl) (nI ne) (nI nf) (nI na) (nI an) (nI tm) (nI cn) (nI cs) (nI bd) (nI lt) (nI (nt + 1)) fx fy) m27 (gm_ne m27 eh (fun h => by cases h))
                  have h_57 := gm_pass (k := h) (y := moO h (nI le) bp (nI nr) (nI wh) (nI tl) (nI ne) (nI nf) (nI na) (nI an) (nI tm) (nI cn) (nI cs) (nI bd) (nI lt) (nI (nt + 1)) fx fy) m10 (gm_ne m10 eh (fun h => by cases h))
                  have h_58 := gm_pass (k := h) (y := moO h (nI le) bp (nI nr) (nI wh) (nI tl) (nI ne) (nI nf) (nI na) (nI an) (nI tm) (nI cn) (nI cs) (nI bd) (nI lt) (nI (nt + 1)) fx fy) m11 (gm_ne m11 eh (fun h => by cases h))
                  have h_59 := gm_pass (k := h) (y := moO h (nI le) bp (nI nr) (nI wh) (nI tl) (nI ne) (nI nf) (nI na) (nI an) (nI tm) (nI cn) (nI cs) (nI bd) (nI lt) (nI (nt + 1)) fx fy) m12 (gm_ne m12 eh (fun h => by cases h))
                  have h_60 := gm_pass (k := h) (y := moO h (nI le) bp (nI nr) (nI wh) (nI tl) (nI ne) (nI nf) (nI na) (nI an) (nI tm) (nI cn) (nI cs) (nI bd) (nI lt) (nI (nt + 1)) fx fy) m13 (gm_ne m13 eh (fun h => by cases h))
                  have h_61 := gm_pass (k := h) (y := moO h (nI le) bp (nI nr) (nI wh) (nI tl) (nI ne) (nI nf) (nI na) (nI an) (nI tm) (nI cn) (nI cs) (nI bd) (nI lt) (nI (nt + 1)) fx fy) m14 (gm_ne m14 eh (fun h => by cases h))
                  have h_62 := gm_pass (k := h) (y := moO h (nI le) bp (nI nr) (nI wh) (nI tl) (nI ne) (nI nf) (nI na) (nI an) (nI tm) (nI cn) (nI cs) (nI bd) (nI lt) (nI (nt + 1)) fx fy) m15 (gm_ne m15 eh (fun h => by cases h))
                  have h_63 := gm_pass (k := h) (y := moO h (nI le) bp (nI nr) (nI wh) (nI tl) (nI ne) (nI nf) (nI na) (nI an) (nI tm) (nI cn) (nI cs) (nI bd) (nI lt) (nI (nt + 1)) fx fy) m16 (gm_ne m16 eh (fun h => by cases h))
                  have h_64 := gm_pass (k := h) (y := moO h (nI le) bp (nI nr) (nI wh) (nI tl) (nI ne) (nI nf) (nI na) (nI an) (nI tm) (nI cn) (nI cs) (nI bd) (nI lt) (nI (nt + 1)) fx fy) m17 (gm_ne m17 eh (fun h => by cases h))
                  have h_65 := gm_pass (k := h) (y := moO h (nI le) bp (nI nr) (nI wh) (nI tl) (nI ne) (nI nf) (nI na) (nI an) (nI tm) (nI cn) (nI cs) (nI bd) (nI lt) (nI (nt + 1)) fx fy) m18 (gm_ne m18 eh (fun h => by cases h))
                  have h_66 := gm_pass (k := h) (y := moO h (nI le) bp (nI nr) (nI wh) (nI tl) (nI ne) (nI nf) (nI na) (nI an) (nI tm) (nI cn) (nI cs) (nI bd) (nI lt) (nI (nt + 1)) fx fy) m19 (gm_ne m19 eh (fun h => by cases h))
                  have h_67 := gm_pass (k := h) (y := moO h (nI le) bp (nI nr) (nI wh) (nI tl) (nI ne) (nI nf) (nI na) (nI an) (nI tm) (nI cn) (nI cs) (nI bd) (nI lt) (nI (nt + 1)) fx fy) m20 (gm_ne m20 eh (fun h => by cases h))
                  have h_68 := gm_pass (k := h) (y := moO h (nI le) bp (nI nr) (nI wh) (nI tl) (nI ne) (nI nf) (nI na) (nI an) (nI tm) (nI cn) (nI cs) (nI bd) (nI lt) (nI (nt + 1)) fx fy) m21 (gm_ne m21 eh (fun h => by cases h))
                  have h_69 := gm_pass (k := h) (y := moO h (nI le) bp (nI nr) (nI wh) (nI tl) (nI ne) (nI nf) (nI na) (nI an) (nI tm) (nI cn) (nI cs) (nI bd) (nI lt) (nI (nt + 1)) fx fy) m22 (gm_ne m22 eh (fun h => by cases h))
                  have h_70 := gm_pass (k := h) (y := moO h (nI le) bp (nI nr) (nI wh) (nI tl) (nI ne) (nI nf) (nI na) (nI an) (nI tm) (nI cn) (nI cs) (nI bd) (nI lt) (nI (nt + 1)) fx fy) m23 (gm_ne m23 eh (fun h => by cases h))
                  have h_71 := gm_up_self M h (moO h (nI le) bp (nI nr) (nI wh) (nI tl) (nI ne) (nI nf) (nI na) (nI an) (nI tm) (nI cn) (nI cs) (nI bd) (nI lt) (nI (nt + 1)) fx fy)
                  refine W.eq (g2 := F0 m 144 ls [.int (-6)]) rfl ?_
                  rw [← hQ]
                  exact gc_iret hx hb hr hlk hP hS d_Mo_outward_144 ⟨rfl, Or.inr ⟨pr0, f0, (-6), fl, nf, em, cs, lt, (nt + 1), an, mq, fx, fy, ⟨rfl, hpr0⟩, ⟨rfl, hf0⟩, (by unfold outF; rw [if_neg (by omega), c_15]; simp only [hfl_48]), hRF, (Or.inr ⟨by decide, rfl, rfl, rfl⟩), h_71, h_61, h_62, h_63, h_64, h_65, h_66, h_67, h_68, h_69, h_70, h_56, (fun z q0 q1 q2 q3 q4 q5 q6 q7 q8 q9 q10 q11 => (gm_up_ne _ _ q0).trans (rfl)), rfl⟩⟩
                · skip
                  have h_72 := (hfr_47 _ (gm_ne m2 eh (fun h => by cases h)) (by omega) (by omega) (by omega) (by omega) (by omega) (by omega) (by omega) (by omega) (by omega) (by omega)).trans m2
                  have h_73 := (hfr_47 _ (gm_ne m3 eh (fun h => by cases h)) (by omega) (by omega) (by omega) (by omega) (by omega) (by omega) (by omega) (by omega) (by omega) (by omega)).trans m3
                  have h_74 := (hfr_47 _ (gm_ne m4 eh (fun h => by cases h)) (by omega) (by omega) (by omega) (by omega) (by omega) (by omega) (by omega) (by omega) (by omega) (by omega)).trans m4
                  have h_75 := (hfr_47 _ (gm_ne m5 eh (fun h => by cases h)) (gm_ne m5 m14 (fun h => by simp at h)) (gm_ne m5 m15 (fun h => by simp at h)) (gm_ne m5 m16 (fun h => by simp at h)) (gm_ne m5 m17 (fun h => by simp at h)) (gm_ne m5 m18 (fun h => by simp at h)) (gm_ne m5 m19 (fun h => by simp at h)) (gm_ne m5 m20 (fun h => by simp at h)) (gm_ne m5 m21 (fun h => by simp at h)) (gm_ne m5 m22 (fun h => by simp at h)) (gm_ne m5 m23 (fun h => by simp at h))).trans m5
                  have h_76 := (hfr_47 _ (gm_ne m6 eh (fun h => by cases h)) (gm_ne m6 m14 (fun h => by simp at h)) (gm_ne m6 m15 (fun h => by simp at h)) (gm_ne m6 m16 (fun h => by simp at h)) (gm_ne m6 m17 (fun h => by simp at h)) (gm_ne m6 m18 (fun h => by simp at h)) (gm_ne m6 m19 (fun h => by simp at h)) (gm_ne m6 m20 (fun h => by simp at h)) (gm_ne m6 m21 (fun h => by simp at h)) (gm_ne m6 m22 (fun h => by simp at h)) (gm_ne m6 m23 (fun h => by simp at h))).trans m6
                  have h_77 := (hfr_47 _ (gm_ne m26 eh (fun h => by cases h)) (gm_ne m26 m14 (fun h => by simp at h)) (gm_ne m26 m15 (fun h => by simp at h)) (gm_ne m26 m16 (fun h => by simp at h)) (gm_ne m26 m17 (fun h => by simp at h)) (gm_ne m26 m18 (fun h => by simp at h)) (gm_ne m26 m19 (fun h => by simp at h)) (gm_ne m26 m20 (fun h => by simp at h)) (gm_ne m26 m21 (fun h => by simp at h)) (gm_ne m26 m22 (fun h => by simp at h)) (gm_ne m26 m23 (fun h => by simp at h))).trans m26
                  have h_78 := (hfr_47 _ (gm_ne m27 eh (fun h => by cases h)) (gm_ne m27 m14 (fun h => by simp at h)) (gm_ne m27 m15 (fun h => by simp at h)) (gm_ne m27 m16 (fun h => by simp at h)) (gm_ne m27 m17 (fun h => by simp at h)) (gm_ne m27 m18 (fun h => by simp at h)) (gm_ne m27 m19 (fun h => by simp at h)) (gm_ne m27 m20 (fun h => by simp at h)) (gm_ne m27 m21 (fun h => by simp at h)) (gm_ne m27 m22 (fun h => by simp at h)) (gm_ne m27 m23 (fun h => by simp at h))).trans m27
                  have h_79 := (hfr_47 _ (gm_ne m10 eh (fun h => by cases h)) (gm_ne m10 m14 (fun h => by simp at h)) (gm_ne m10 m15 (fun h => by simp at h)) (gm_ne m10 m16 (fun h => by simp at h)) (gm_ne m10 m17 (fun h => by simp at h)) (gm_ne m10 m18 (fun h => by simp at h)) (gm_ne m10 m19 (fun h => by simp at h)) (gm_ne m10 m20 (fun h => by simp at h)) (gm_ne m10 m21 (fun h => by simp at h)) (gm_ne m10 m22 (fun h => by simp at h)) (gm_ne m10 m23 (fun h => by simp at h))).trans m10
                  have h_80 := (hfr_47 _ (gm_ne m11 eh (fun h => by cases h)) (gm_ne m11 m14 (fun h => by simp at h)) (gm_ne m11 m15 (fun h => by simp at h)) (gm_ne m11 m16 (fun h => by simp at h)) (gm_ne m11 m17 (fun h => by simp at h)) (gm_ne m11 m18 (fun h => by simp at h)) (gm_ne m11 m19 (fun h => by simp at h)) (gm_ne m11 m20 (fun h => by simp at h)) (gm_ne m11 m21 (fun h => by simp at h)) (gm_ne m11 m22 (fun h => by simp at h)) (gm_ne m11 m23 (fun h => by simp at h))).trans m11
                  have h_81 := (hfr_47 _ (gm_ne m12 eh (fun h => by cases h)) (gm_ne m12 m14 (fun h => by simp at h)) (gm_ne m12 m15 (fun h => by simp at h)) (gm_ne m12 m16 (fun h => by simp at h)) (gm_ne m12 m17 (fun h => by simp at h)) (gm_ne m12 m18 (fun h => by simp at h)) (gm_ne m12 m19 (fun h => by simp at h)) (gm_ne m12 m20 (fun h => by simp at h)) (gm_ne m12 m21 (fun h => by simp at h)) (gm_ne m12 m22 (fun h => by simp at h)) (gm_ne m12 m23 (fun h => by simp at h))).trans m12
                  have h_82 := (hfr_47 _ (gm_ne m13 eh (fun h => by cases h)) (gm_ne m13 m14 (fun h => by simp at h)) (gm_ne m13 m15 (fun h => by simp at h)) (gm_ne m13 m16 (fun h => by simp at h)) (gm_ne m13 m17 (fun h => by simp at h)) (gm_ne m13 m18 (fun h => by simp at h)) (gm_ne m13 m19 (fun h => by simp at h)) (gm_ne m13 m20 (fun h => by simp at h)) (gm_ne m13 m21 (fun h => by simp at h)) (gm_ne m13 m22 (fun h => by simp at h)) (gm_ne m13 m23 (fun h => by simp at h))).trans m13
                  refine W.eq (g2 := F0 m 110 ls [.int (nI 1)]) rfl ?_
                  have hfl_83 : flS fl nf kv_14 1 f0 tm = some (fl1v_29, n1v_30) := c_32
                  refine lv_if_eq (tgt := 138) hx hb d_Mo_outward_110 (by decide) (fun q => absurd q (by decide)) (fun _ => ?_)
                  refine lv_aload_n hx hb d_Mo_outward_113 rfl (lv_at hl 2 rfl) ?_
                  refine lv_iconst (v := nI 0) hx hb d_Mo_outward_114 (by decide) ?_
                  refine lv_sipush (v := nI 200) hx hb d_Mo_outward_115 (by decide) ?_
                  refine lv_iload hx hb d_Mo_outward_118 (lv_at hl 0 rfl) ?_
                  refine lv_aload_n hx hb d_Mo_outward_120 rfl (lv_at hl 2 rfl) ?_
                  refine gm_get (C := R_Mo) (T := F_Mo) (n := 44) hx hb htl i_Mo hown hK hP h_36 rfl 33 (by decide) (htl _ k_776) (fun _ h => h) rfl d_Mo_outward_121 ?_
                  refine lv_iconst (v := nI 2) hx hb d_Mo_outward_124 (by decide) ?_
                  refine gz_iald hx hb hK hP 0 h_77 rfl (by omega) (by omega) d_Mo_outward_125 ?_
                  rw [show hd 2 = ta / 256 from hhd.2.2.1]
                  refine lv_aload_n hx hb d_Mo_outward_126 rfl (lv_at hl 2 rfl) ?_
                  refine gm_get (C := R_Mo) (T := F_Mo) (n := 44) hx hb htl i_Mo hown hK hP h_36 rfl 33 (by decide) (htl _ k_776) (fun _ h => h) rfl d_Mo_outward_127 ?_
                  refine lv_iconst (v := nI 3) hx hb d_Mo_outward_130 (by decide) ?_
                  refine gz_iald hx hb hK hP 0 h_77 rfl (by omega) (by omega) d_Mo_outward_131 ?_
                  rw [show hd 3 = ta % 256 from hhd.2.2.2]
                  refine gc_V (q := (R_Mo, F_Mo, 44)) (n := 5) [.int (nI 0), .int (nI 200), .int (nI (fl kv_14 3)), .int (nI (ta / 256)), .int (nI (ta % 256))] [] hx hb hml hown hts hK hN hX hP hS (c_Mo_emit (nI 0) h_36 h_78) rfl h_36 k_975 k_977 ks_Mo_emit k_10 k_978 (by decide +kernel) ⟨by decide, by decide⟩ rfl hl.1 rfl (Nat.le_of_ble_eq_true rfl) d_Mo_outward_132 ⟨by decide, by decide⟩ (fun r N1 M_84 H locs hw hP hS => ?_)
                  obtain ⟨rfl, hw⟩ := hw
                  obtain ⟨rfl, rfl⟩ := hw
                  have h_85 := gm_pass (k := (h + 27)) (y := .inl (ca 0, 4, .inl (iN (eUp em 200 (fl kv_14 3) (ta / 256) (ta % 256))))) h_72 (gm_ne h_72 h_78 (fun h => by simp at h))
                  have h_86 := gm_pass (k := (h + 27)) (y := .inl (ca 0, 4, .inl (iN (eUp em 200 (fl kv_14 3) (ta / 256) (ta % 256))))) h_73 (gm_ne h_73 h_78 (fun h => by simp at h))
                  have h_87 := gm_pass (k := (h + 27)) (y := .inl (ca 0, 4, .inl (iN (eUp em 200 (fl kv_14 3) (ta / 256) (ta % 256))))) h_74 (gm_ne h_74 h_78 (fun h => by simp at h))
                  have h_88 := gm_pass (k := (h + 27)) (y := .inl (ca 0, 4, .inl (iN (eUp em 200 (fl kv_14 3) (ta / 256) (ta % 256))))) h_75 (gm_ne h_75 h_78 (fun h => by simp at h))
                  have h_89 := gm_pass (k := (h + 27)) (y := .inl (ca 0, 4, .inl (iN (eUp em 200 (fl kv_14 3) (ta / 256) (ta % 256))))) h_76 (gm_ne h_76 h_78 (fun h => by simp at h))
                  have h_90 := gm_pass (k := (h + 27)) (y := .inl (ca 0, 4, .inl (iN (eUp em 200 (fl kv_14 3) (ta / 256) (ta % 256))))) h_77 (by omega)
                  have h_91 := gm_pass (k := (h + 27)) (y := .inl (ca 0, 4, .inl (iN (eUp em 200 (fl kv_14 3) (ta / 256) (ta % 256))))) h_79 (gm_ne h_79 h_78 (fun h => by simp at h))
                  have h_92 := gm_pass (k := (h + 27)) (y := .inl (ca 0, 4, .inl (iN (eUp em 200 (fl kv_14 3) (ta / 256) (ta % 256))))) h_80 (gm_ne h_80 h_78 (fun h => by simp at h))
                  have h_93 := gm_pass (k := (h + 27)) (y := .inl (ca 0, 4, .inl (iN (eUp em 200 (fl kv_14 3) (ta / 256) (ta % 256))))) h_81 (gm_ne h_81 h_78 (fun h => by simp at h))
                  have h_94 := gm_pass (k := (h + 27)) (y := .inl (ca 0, 4, .inl (iN (eUp em 200 (fl kv_14 3) (ta / 256) (ta % 256))))) h_82 (gm_ne h_82 h_78 (fun h => by simp at h))
                  have h_95 := gm_pass (k := (h + 27)) (y := .inl (ca 0, 4, .inl (iN (eUp em 200 (fl kv_14 3) (ta / 256) (ta % 256))))) h_36 (gm_ne h_36 h_78 (fun h => by cases h))
                  have h_96 := gm_pass (k := (h + 27)) (y := .inl (ca 0, 4, .inl (iN (eUp em 200 (fl kv_14 3) (ta / 256) (ta % 256))))) h_37 (gm_ne h_37 h_78 (fun h => by simp at h))
                  have h_97 := gm_pass (k := (h + 27)) (y := .inl (ca 0, 4, .inl (iN (eUp em 200 (fl kv_14 3) (ta / 256) (ta % 256))))) h_38 (gm_ne h_38 h_78 (fun h => by simp at h))
                  have h_98 := gm_pass (k := (h + 27)) (y := .inl (ca 0, 4, .inl (iN (eUp em 200 (fl kv_14 3) (ta / 256) (ta % 256))))) h_39 (gm_ne h_39 h_78 (fun h => by simp at h))
                  have h_99 := gm_pass (k := (h + 27)) (y := .inl (ca 0, 4, .inl (iN (eUp em 200 (fl kv_14 3) (ta / 256) (ta % 256))))) h_40 (gm_ne h_40 h_78 (fun h => by simp at h))
                  have h_100 := gm_pass (k := (h + 27)) (y := .inl (ca 0, 4, .inl (iN (eUp em 200 (fl kv_14 3) (ta / 256) (ta % 256))))) h_41 (gm_ne h_41 h_78 (fun h => by simp at h))
                  have h_101 := gm_pass (k := (h + 27)) (y := .inl (ca 0, 4, .inl (iN (eUp em 200 (fl kv_14 3) (ta / 256) (ta % 256))))) h_42 (gm_ne h_42 h_78 (fun h => by simp at h))
                  have h_102 := gm_pass (k := (h + 27)) (y := .inl (ca 0, 4, .inl (iN (eUp em 200 (fl kv_14 3) (ta / 256) (ta % 256))))) h_43 (gm_ne h_43 h_78 (fun h => by simp at h))
                  have h_103 := gm_pass (k := (h + 27)) (y := .inl (ca 0, 4, .inl (iN (eUp em 200 (fl kv_14 3) (ta / 256) (ta % 256))))) h_44 (gm_ne h_44 h_78 (fun h => by simp at h))
                  have h_104 := gm_pass (k := (h + 27)) (y := .inl (ca 0, 4, .inl (iN (eUp em 200 (fl kv_14 3) (ta / 256) (ta % 256))))) h_45 (gm_ne h_45 h_78 (fun h => by simp at h))
                  have h_105 := gm_pass (k := (h + 27)) (y := .inl (ca 0, 4, .inl (iN (eUp em 200 (fl kv_14 3) (ta / 256) (ta % 256))))) h_46 (gm_ne h_46 h_78 (fun h => by simp at h))
                  have h_106 := gm_up_self M_27 (h + 27) (.inl (ca 0, 4, .inl (iN (eUp em 200 (fl kv_14 3) (ta / 256) (ta % 256)))))
                  have hP : gm_P D cls A N (gm_up (gm_up M_27 (h + 27) (.inl (ca 0, 4, .inl (iN (eUp em 200 (fl kv_14 3) (ta / 256) (ta % 256)))))) h (moO h (nI le) bp (nI nr) (nI wh) (nI tl) (nI ne) (nI n1v_30) (nI na) (nI 1) (nI tm) (nI cn) (nI cs) (nI bd) (nI (lt + 1)) (nI nt) fx fy)) H := hP
                  have h_107 := gm_pass (k := h) (y := moO h (nI le) bp (nI nr) (nI wh) (nI tl) (nI ne) (nI n1v_30) (nI na) (nI 1) (nI tm) (nI cn) (nI cs) (nI bd) (nI (lt + 1)) (nI nt) fx fy) h_85 (gm_ne h_85 h_95 (fun h => by cases h))
                  have h_108 := gm_pass (k := h) (y := moO h (nI le) bp (nI nr) (nI wh) (nI tl) (nI ne) (nI n1v_30) (nI na) (nI 1) (nI tm) (nI cn) (nI cs) (nI bd) (nI (lt + 1)) (nI nt) fx fy) h_86 (gm_ne h_86 h_95 (fun h => by cases h))
                  have h_109 := gm_pass (k := h) (y := moO h (nI le) bp (nI nr) (nI wh) (nI tl) (nI ne) (nI n1v_30) (nI na) (nI 1) (nI tm) (nI cn) (nI cs) (nI bd) (nI (lt + 1)) (nI nt) fx fy) h_87 (gm_ne h_87 h_95 (fun h => by cases h))
                  have h_110 := gm_pass (k := h) (y := moO h (nI le) bp (nI nr) (nI wh) (nI tl) (nI ne) (nI n1v_30) (nI na) (nI 1) (nI tm) (nI cn) (nI cs) (nI bd) (nI (lt + 1)) (nI nt) fx fy) h_88 (gm_ne h_88 h_95 (fun h => by cases h))
                  have h_111 := gm_pass (k := h) (y := moO h (nI le) bp (nI nr) (nI wh) (nI tl) (nI ne) (nI n1v_30) (nI na) (nI 1) (nI tm) (nI cn) (nI cs) (nI bd) (nI (lt + 1)) (nI nt) fx fy) h_89 (gm_ne h_89 h_95 (fun h => by cases h))
                  have h_112 := gm_pass (k := h) (y := moO h (nI le) bp (nI nr) (nI wh) (nI tl) (nI ne) (nI n1v_30) (nI na) (nI 1) (nI tm) (nI cn) (nI cs) (nI bd) (nI (lt + 1)) (nI nt) fx fy) h_90 (gm_ne h_90 h_95 (fun h => by cases h))
                  have h_113 := gm_pass (k := h) (y := moO h (nI le) bp (nI nr) (nI wh) (nI tl) (nI ne) (nI n1v_30) (nI na) (nI 1) (nI tm) (nI cn) (nI cs) (nI bd) (nI (lt + 1)) (nI nt) fx fy) h_91 (gm_ne h_91 h_95 (fun h => by cases h))
                  have h_114 := gm_pass (k := h) (y := moO h (nI le) bp (nI nr) (nI wh) (nI tl) (nI ne) (nI n1v_30) (nI na) (nI 1) (nI tm) (nI cn) (nI cs) (nI bd) (nI (lt + 1)) (nI nt) fx fy) h_92 (gm_ne h_92 h_95 (fun h => by cases h))
                  have h_115 := gm_pass (k := h) (y := moO h (nI le) bp (nI nr) (nI wh) (nI tl) (nI ne) (nI n1v_30) (nI na) (nI 1) (nI tm) (nI cn) (nI cs) (nI bd) (nI (lt + 1)) (nI nt) fx fy) h_93 (gm_ne h_93 h_95 (fun h => by cases h))
                  have h_116 := gm_pass (k := h) (y := moO h (nI le) bp (nI nr) (nI wh) (nI tl) (nI ne) (nI n1v_30) (nI na) (nI 1) (nI tm) (nI cn) (nI cs) (nI bd) (nI (lt + 1)) (nI nt) fx fy) h_94 (gm_ne h_94 h_95 (fun h => by cases h))
                  have h_117 := gm_pass (k := h) (y := moO h (nI le) bp (nI nr) (nI wh) (nI tl) (nI ne) (nI n1v_30) (nI na) (nI 1) (nI tm) (nI cn) (nI cs) (nI bd) (nI (lt + 1)) (nI nt) fx fy) h_96 (gm_ne h_96 h_95 (fun h => by cases h))
                  have h_118 := gm_pass (k := h) (y := moO h (nI le) bp (nI nr) (nI wh) (nI tl) (nI ne) (nI n1v_30) (nI na) (nI 1) (nI tm) (nI cn) (nI cs) (nI bd) (nI (lt + 1)) (nI nt) fx fy) h_97 (gm_ne h_97 h_95 (fun h => by cases h))
                  have h_119 := gm_pass (k := h) (y := moO h (nI le) bp (nI nr) (nI wh) (nI tl) (nI ne) (nI n1v_30) (nI na) (nI 1) (nI tm) (nI cn) (nI cs) (nI bd) (nI (lt + 1)) (nI nt) fx fy) h_98 (gm_ne h_98 h_95 (fun h => by cases h))
                  have h_120 := gm_pass (k := h) (y := moO h (nI le) bp (nI nr) (nI wh) (nI tl) (nI ne) (nI n1v_30) (nI na) (nI 1) (nI tm) (nI cn) (nI cs) (nI bd) (nI (lt + 1)) (nI nt) fx fy) h_99 (gm_ne h_99 h_95 (fun h => by cases h))
                  have h_121 := gm_pass (k := h) (y := moO h (nI le) bp (nI nr) (nI wh) (nI tl) (nI ne) (nI n1v_30) (nI na) (nI 1) (nI tm) (nI cn) (nI cs) (nI bd) (nI (lt + 1)) (nI nt) fx fy) h_100 (gm_ne h_100 h_95 (fun h => by cases h))
                  have h_122 := gm_pass (k := h) (y := moO h (nI le) bp (nI nr) (nI wh) (nI tl) (nI ne) (nI n1v_30) (nI na) (nI 1) (nI tm) (nI cn) (nI cs) (nI bd) (nI (lt + 1)) (nI nt) fx fy) h_101 (gm_ne h_101 h_95 (fun h => by cases h))
                  have h_123 := gm_pass (k := h) (y := moO h (nI le) bp (nI nr) (nI wh) (nI tl) (nI ne) (nI n1v_30) (nI na) (nI 1) (nI tm) (nI cn) (nI cs) (nI bd) (nI (lt + 1)) (nI nt) fx fy) h_102 (gm_ne h_102 h_95 (fun h => by cases h))
                  have h_124 := gm_pass (k := h) (y := moO h (nI le) bp (nI nr) (nI wh) (nI tl) (nI ne) (nI n1v_30) (nI na) (nI 1) (nI tm) (nI cn) (nI cs) (nI bd) (nI (lt + 1)) (nI nt) fx fy) h_103 (gm_ne h_103 h_95 (fun h => by cases h))
                  have h_125 := gm_pass (k := h) (y := moO h (nI le) bp (nI nr) (nI wh) (nI tl) (nI ne) (nI n1v_30) (nI na) (nI 1) (nI tm) (nI cn) (nI cs) (nI bd) (nI (lt + 1)) (nI nt) fx fy) h_104 (gm_ne h_104 h_95 (fun h => by cases h))
                  have h_126 := gm_pass (k := h) (y := moO h (nI le) bp (nI nr) (nI wh) (nI tl) (nI ne) (nI n1v_30) (nI na) (nI 1) (nI tm) (nI cn) (nI cs) (nI bd) (nI (lt + 1)) (nI nt) fx fy) h_105 (gm_ne h_105 h_95 (fun h => by cases h))
                  have h_127 := gm_pass (k := h) (y := moO h (nI le) bp (nI nr) (nI wh) (nI tl) (nI ne) (nI n1v_30) (nI na) (nI 1) (nI tm) (nI cn) (nI cs) (nI bd) (nI (lt + 1)) (nI nt) fx fy) h_106 (gm_ne h_106 h_95 (fun h => by cases h))
                  have h_128 := gm_up_self (gm_up M_27 (h + 27) (.inl (ca 0, 4, .inl (iN (eUp em 200 (fl kv_14 3) (ta / 256) (ta % 256)))))) h (moO h (nI le) bp (nI nr) (nI wh) (nI tl) (nI ne) (nI n1v_30) (nI na) (nI 1) (nI tm) (nI cn) (nI cs) (nI bd) (nI (lt + 1)) (nI nt) fx fy)
                  refine W.eq (g2 := F0 m 135 ls [.int (nI 0)]) rfl ?_
                  refine lv_goto (tgt := 144) hx hb d_Mo_outward_135 (by decide) ?_
                  rw [← hQ]
                  exact gc_iret hx hb hr hlk hP hS d_Mo_outward_144 ⟨rfl, Or.inr ⟨pr0, f0, (nI 0), fl1v_29, n1v_30, (eUp em 200 (fl kv_14 3) (ta / 256) (ta % 256)), cs, (lt + 1), nt, 1, mq1v_31, fx, fy, ⟨rfl, hpr0⟩, ⟨rfl, hf0⟩, (by unfold outF; rw [if_neg (by omega), c_15]; simp only [hfl_83]), c_34, (Or.inl ⟨by decide, rfl, rfl, rfl⟩), h_128, h_117, h_118, h_119, h_120, h_121, h_122, h_123, h_124, h_125, h_126, h_127, (fun z q0 q1 q2 q3 q4 q5 q6 q7 q8 q9 q10 q11 => (gm_up_ne _ _ q0).trans ((gm_up_ne _ _ q11).trans ((hfr_47 z q0 q1 q2 q3 q4 q5 q6 q7 q8 q9 q10).trans (rfl)))), rfl⟩⟩
              · skip
                refine W.eq (g2 := F0 m 97 ls [.int (-1)]) rfl ?_
                exact absurd (c_23.symm.trans (mpP_tri hT (k := kv_14) (by omega) hk_18.1 hk_18.2.1)) (by simp)
            · skip
              refine W.eq (g2 := F0 m 79 ls [.int (-1)]) rfl ?_
              refine lv_istore_n (lv' := [(3, .int (-1)), (0, .ref h), (1, .int (nI pr0)), (2, .int (nI f0))]) hx hb d_Mo_outward_79 rfl hl (by decide) rfl (fun ls hl => ?_)
              refine lv_aload_n hx hb d_Mo_outward_80 rfl (lv_at hl 1 rfl) ?_
              refine lv_iload_n hx hb d_Mo_outward_81 rfl (lv_at hl 2 rfl) ?_
              refine lv_aload_n hx hb d_Mo_outward_82 rfl (lv_at hl 1 rfl) ?_
              refine gm_get (C := R_Mo) (T := F_Mo) (n := 44) hx hb htl i_Mo hown hK hP eh rfl 33 (by decide) (htl _ k_776) (fun _ h => h) rfl d_Mo_outward_83 ?_
              refine lv_iconst (v := nI 0) hx hb d_Mo_outward_86 (by decide) ?_
              refine gz_iald hx hb hK hP 0 m26 rfl (by omega) (by omega) d_Mo_outward_87 ?_
              rw [show hd 0 = so / 256 from hhd.1]
              refine lv_aload_n hx hb d_Mo_outward_88 rfl (lv_at hl 1 rfl) ?_
              refine gm_get (C := R_Mo) (T := F_Mo) (n := 44) hx hb htl i_Mo hown hK hP eh rfl 33 (by decide) (htl _ k_776) (fun _ h => h) rfl d_Mo_outward_89 ?_
              refine lv_iconst (v := nI 1) hx hb d_Mo_outward_92 (by decide) ?_
              refine gz_iald hx hb hK hP 0 m26 rfl (by omega) (by omega) d_Mo_outward_93 ?_
              rw [show hd 1 = so % 256 from hhd.2.1]
              refine gc_V (q := (R_Mo, F_Mo, 44)) (n := 3) [.int (nI pr0), .int (nI (so / 256)), .int (nI (so % 256))] [] hx hb hml hown hts hK hN hX hP hS (c_Mo_portOf (pp := pp) (po := po) (pi := pi) (fl := fl) (b0 := so) eh m10 m11 m12 m13 m14 m15 m16 m17 m18 m19 m20 m21 m22 m23 hRE (by omega) hpp hpo hpi hRF (by omega) hF (by omega) (by omega) (by omega)) rfl eh k_936 k_938 ks_Mo_portOf k_10 k_939 (by decide +kernel) ⟨by decide, by decide⟩ rfl hl.1 rfl (Nat.le_of_ble_eq_true rfl) d_Mo_outward_94 ⟨by decide, by decide⟩ (fun r N1 M_129 H locs hw hP hS => ?_)
              obtain ⟨rfl, hw⟩ := hw
              rcases hw with ⟨vv_130, c_131, c_132, rfl, rfl⟩ | ⟨c_133, rfl, rfl⟩
              · skip
                refine W.eq (g2 := F0 m 97 ls [.int (nI vv_130)]) rfl ?_
                refine lv_istore (lv' := [(4, .int (nI vv_130)), (3, .int (-1)), (0, .ref h), (1, .int (nI pr0)), (2, .int (nI f0))]) hx hb d_Mo_outward_97 hl (by decide) rfl (fun ls hl => ?_)
                refine lv_iload_n hx hb d_Mo_outward_99 rfl (lv_at hl 1 rfl) ?_
                refine lv_if_lt (tgt := 145) hx hb d_Mo_outward_100 (by decide) (fun _ => ?_) (fun q => absurd q (by decide))
                refine lv_aload_n hx hb d_Mo_outward_145 rfl (lv_at hl 2 rfl) ?_
                refine lv_iconst (v := nI 1) hx hb d_Mo_outward_146 (by decide) ?_
                refine lv_iload_n hx hb d_Mo_outward_147 rfl (lv_at hl 3 rfl) ?_
                refine lv_aload_n hx hb d_Mo_outward_148 rfl (lv_at hl 2 rfl) ?_
                refine gm_get (C := R_Mo) (T := F_Mo) (n := 44) hx hb htl i_Mo hown hK hP eh rfl 33 (by decide) (htl _ k_776) (fun _ h => h) rfl d_Mo_outward_149 ?_
                refine lv_iconst (v := nI 0) hx hb d_Mo_outward_152 (by decide) ?_
                refine gz_iald hx hb hK hP 0 m26 rfl (by omega) (by omega) d_Mo_outward_153 ?_
                rw [show hd 0 = so / 256 from hhd.1]
                refine lv_aload_n hx hb d_Mo_outward_154 rfl (lv_at hl 2 rfl) ?_
                refine gm_get (C := R_Mo) (T := F_Mo) (n := 44) hx hb htl i_Mo hown hK hP eh rfl 33 (by decide) (htl _ k_776) (fun _ h => h) rfl d_Mo_outward_155 ?_
                refine lv_iconst (v := nI 2) hx hb d_Mo_outward_158 (by decide) ?_
                refine gz_iald hx hb hK hP 0 m26 rfl (by omega) (by omega) d_Mo_outward_159 ?_
                rw [show hd 2 = ta / 256 from hhd.2.2.1]
                refine lv_aload_n hx hb d_Mo_outward_160 rfl (lv_at hl 2 rfl) ?_
                refine gm_get (C := R_Mo) (T := F_Mo) (n := 44) hx hb htl i_Mo hown hK hP eh rfl 33 (by decide) (htl _ k_776) (fun _ h => h) rfl d_Mo_outward_161 ?_
                refine lv_iconst (v := nI 3) hx hb d_Mo_outward_164 (by decide) ?_
                refine gz_iald hx hb hK hP 0 m26 rfl (by omega) (by omega) d_Mo_outward_165 ?_
                rw [show hd 3 = ta % 256 from hhd.2.2.2]
                refine gc_V (q := (R_Mo, F_Mo, 44)) (n := 5) [.int (nI 1), .int (nI pr0), .int (nI (so / 256)), .int (nI (ta / 256)), .int (nI (ta % 256))] [] hx hb hml hown hts hK hN hX hP hS (c_Mo_policy (ru := ru) (lw := lw) (hw := hw) (s0 := so) (t0 := ta) eh m2 m3 m4 m5 m6 hRU hU (by omega) (by omega) (by omega) (by omega) (by omega) (by omega)) rfl eh k_979 k_981 ks_Mo_policy k_10 k_982 (by decide +kernel) ⟨by decide, by decide⟩ rfl hl.1 rfl (Nat.le_of_ble_eq_true rfl) d_Mo_outward_166 ⟨by decide, by decide⟩ (fun r N1 M_134 H locs hw hP hS => ?_)
                obtain ⟨rfl, hw⟩ := hw
                obtain ⟨av_135, c_136, rfl, rfl⟩ := hw
                refine W.eq (g2 := F0 m 169 ls [.int (nI av_135)]) rfl ?_
                have hp_137 := pol_F c_136
                have b_138 := pol_le hU c_136
                refine lv_istore (lv' := [(5, .int (nI av_135)), (4, .int (nI vv_130)), (3, .int (-1)), (0, .ref h), (1, .int (nI pr0)), (2, .int (nI f0))]) hx hb d_Mo_outward_169 hl (by decide) rfl (fun ls hl => ?_)
                refine lv_iload hx hb d_Mo_outward_171 (lv_at hl 0 rfl) ?_
                refine lv_iconst (v := nI 1) hx hb d_Mo_outward_173 (by decide) ?_
                refine ln_ne (tgt := 184) hx hb d_Mo_outward_174 (by decide) (by omega) (by omega) (fun c_139 => ?_) (fun c_139 => ?_)
                · skip
                  refine lv_iload hx hb d_Mo_outward_184 (lv_at hl 0 rfl) ?_
                  refine lv_iconst (v := nI 2) hx hb d_Mo_outward_186 (by decide) ?_
                  refine ln_ne (tgt := 236) hx hb d_Mo_outward_187 (by decide) (by omega) (by omega) (fun c_140 => ?_) (fun c_140 => ?_)
                  · skip
                    refine lv_iload_n hx hb d_Mo_outward_236 rfl (lv_at hl 4 rfl) ?_
                    refine lz_ne (tgt := 252) hx hb d_Mo_outward_237 (by decide) (by omega) (fun c_141 => ?_) (fun c_141 => ?_)
                    · skip
                      refine lv_iload hx hb d_Mo_outward_252 (lv_at hl 1 rfl) ?_
                      refine lz_ge (tgt := 264) hx hb d_Mo_outward_254 (by decide) (by omega) ?_
                      refine lv_aload_n hx hb d_Mo_outward_264 rfl (lv_at hl 3 rfl) ?_
                      refine gm_get (C := R_Mo) (T := F_Mo) (n := 44) hx hb htl i_Mo hown hK hP eh rfl 29 (by decide) (htl _ k_772) (fun _ h => h) rfl d_Mo_outward_265 ?_
                      refine lv_bipush (v := nI 16) hx hb d_Mo_outward_268 (by decide) ?_
                      refine ln_eq (tgt := 278) hx hb d_Mo_outward_270 (by decide) (by omega) (by omega) (fun c_143 => ?_) (fun c_143 => ?_)
                      · skip
                        refine lv_aload_n hx hb d_Mo_outward_278 rfl (lv_at hl 3 rfl) ?_
                        refine lv_bipush (v := (-7)) hx hb d_Mo_outward_279 (by decide) ?_
                        refine gc_V (q := (R_Mo, F_Mo, 44)) (n := 1) [.int (-7)] [] hx hb hml hown hts hK hN hX hP hS (c_Mo_stop (-7) eh) rfl eh k_959 k_961 ks_Mo_stop k_10 k_962 (by decide +kernel) ⟨by decide, by decide⟩ rfl hl.1 rfl (Nat.le_of_ble_eq_true rfl) d_Mo_outward_281 ⟨by decide, by decide⟩ (fun r N1 M_144 H locs hw hP hS => ?_)
                        obtain ⟨rfl, hw⟩ := hw
                        obtain ⟨rfl, rfl⟩ := hw
                        have hP : gm_P D cls A N (gm_up M h (moO h (nI le) bp (nI nr) (nI wh) (nI tl) (nI ne) (nI nf) (nI na) (nI an) (nI tm) (nI cn) (nI cs) (nI bd) (nI lt) (nI (nt + 1)) fx fy)) H := hP
                        have h_145 := gm_pass (k := h) (y := moO h (nI le) bp (nI nr) (nI wh) (nI tl) (nI ne) (nI nf) (nI na) (nI an) (nI tm) (nI cn) (nI cs) (nI bd) (nI lt) (nI (nt + 1)) fx fy) m2 (gm_ne m2 eh (fun h => by cases h))
                        have h_146 := gm_pass (k := h) (y := moO h (nI le) bp (nI nr) (nI wh) (nI tl) (nI ne) (nI nf) (nI na) (nI an) (nI tm) (nI cn) (nI cs) (nI bd) (nI lt) (nI (nt + 1)) fx fy) m3 (gm_ne m3 eh (fun h => by cases h))
                        have h_147 := gm_pass (k := h) (y := moO h (nI le) bp (nI nr) (nI wh) (nI tl) (nI ne) (nI nf) (nI na) (nI an) (nI tm) (nI cn) (nI cs) (nI bd) (nI lt) (nI (nt + 1)) fx fy) m4 (gm_ne m4 eh (fun h => by cases h))
                        have h_148 := gm_pass (k := h) (y := moO h (nI le) bp (nI nr) (nI wh) (nI tl) (nI ne) (nI nf) (nI na) (nI an) (nI tm) (nI cn) (nI cs) (nI bd) (nI lt) (nI (nt + 1)) fx fy) m5 (gm_ne m5 eh (fun h => by cases h))
                        have h_149 := gm_pass (k := h) (y := moO h (nI le) bp (nI nr) (nI wh) (nI tl) (nI ne) (nI nf) (nI na) (nI an) (nI tm) (nI cn) (nI cs) (nI bd) (nI lt) (nI (nt + 1)) fx fy) m6 (gm_ne m6 eh (fun h => by cases h))
                        have h_150 := gm_pass (k := h) (y := moO h (nI le) bp (nI nr) (nI wh) (nI tl) (nI ne) (nI nf) (nI na) (nI an) (nI tm) (nI cn) (nI cs) (nI bd) (nI lt) (nI (nt + 1)) fx fy) m26 (gm_ne m26 eh (fun h => by cases h))
                        have h_151 := gm_pass (k := h) (y := moO h (nI le) bp (nI nr) (nI wh) (nI tl) (nI ne) (nI nf) (nI na) (nI an) (nI tm) (nI cn) (nI cs) (nI bd) (nI lt) (nI (nt + 1)) fx fy) m27 (gm_ne m27 eh (fun h => by cases h))
                        have h_152 := gm_pass (k := h) (y := moO h (nI le) bp (nI nr) (nI wh) (nI tl) (nI ne) (nI nf) (nI na) (nI an) (nI tm) (nI cn) (nI cs) (nI bd) (nI lt) (nI (nt + 1)) fx fy) m10 (gm_ne m10 eh (fun h => by cases h))
                        have h_153 := gm_pass (k := h) (y := moO h (nI le) bp (nI nr) (nI wh) (nI tl) (nI ne) (nI nf) (nI na) (nI an) (nI tm) (nI cn) (nI cs) (nI bd) (nI lt) (nI (nt + 1)) fx fy) m11 (gm_ne m11 eh (fun h => by cases h))
                        have h_154 := gm_pass (k := h) (y := moO h (nI le) bp (nI nr) (nI wh) (nI tl) (nI ne) (nI nf) (nI na) (nI an) (nI tm) (nI cn) (nI cs) (nI bd) (nI lt) (nI (nt + 1)) fx fy) m12 (gm_ne m12 eh (fun h => by cases h))
                        have h_155 := gm_pass (k := h) (y := moO h (nI le) bp (nI nr) (nI wh) (nI tl) (nI ne) (nI nf) (nI na) (nI an) (nI tm) (nI cn) (nI cs) (nI bd) (nI lt) (nI (nt + 1)) fx fy) m13 (gm_ne m13 eh (fun h => by cases h))
                        have h_156 := gm_pass (k := h) (y := moO h (nI le) bp (nI nr) (nI wh) (nI tl) (nI ne) (nI nf) (nI na) (nI an) (nI tm) (nI cn) (nI cs) (nI bd) (nI lt) (nI (nt + 1)) fx fy) m14 (gm_ne m14 eh (fun h => by cases h))
                        have h_157 := gm_pass (k := h) (y := moO h (nI le) bp (nI nr) (nI wh) (nI tl) (nI ne) (nI nf) (nI na) (nI an) (nI tm) (nI cn) (nI cs) (nI bd) (nI lt) (nI (nt + 1)) fx fy) m15 (gm_ne m15 eh (fun h => by cases h))
                        have h_158 := gm_pass (k := h) (y := moO h (nI le) bp (nI nr) (nI wh) (nI tl) (nI ne) (nI nf) (nI na) (nI an) (nI tm) (nI cn) (nI cs) (nI bd) (nI lt) (nI (nt + 1)) fx fy) m16 (gm_ne m16 eh (fun h => by cases h))
                        have h_159 := gm_pass (k := h) (y := moO h (nI le) bp (nI nr) (nI wh) (nI tl) (nI ne) (nI nf) (nI na) (nI an) (nI tm) (nI cn) (nI cs) (nI bd) (nI lt) (nI (nt + 1)) fx fy) m17 (gm_ne m17 eh (fun h => by cases h))
                        have h_160 := gm_pass (k := h) (y := moO h (nI le) bp (nI nr) (nI wh) (nI tl) (nI ne) (nI nf) (nI na) (nI an) (nI tm) (nI cn) (nI cs) (nI bd) (nI lt) (nI (nt + 1)) fx fy) m18 (gm_ne m18 eh (fun h => by cases h))
                        have h_161 := gm_pass (k := h) (y := moO h (nI le) bp (nI nr) (nI wh) (nI tl) (nI ne) (nI nf) (nI na) (nI an) (nI tm) (nI cn) (nI cs) (nI bd) (nI lt) (nI (nt + 1)) fx fy) m19 (gm_ne m19 eh (fun h => by cases h))
                        have h_162 := gm_pass (k := h) (y := moO h (nI le) bp (nI nr) (nI wh) (nI tl) (nI ne) (nI nf) (nI na) (nI an) (nI tm) (nI cn) (nI cs) (nI bd) (nI lt) (nI (nt + 1)) fx fy) m20 (gm_ne m20 eh (fun h => by cases h))
                        have h_163 := gm_pass (k := h) (y := moO h (nI le) bp (nI nr) (nI wh) (nI tl) (nI ne) (nI nf) (nI na) (nI an) (nI tm) (nI cn) (nI cs) (nI bd) (nI lt) (nI (nt + 1)) fx fy) m21 (gm_ne m21 eh (fun h => by cases h))
                        have h_164 := gm_pass (k := h) (y := moO h (nI le) bp (nI nr) (nI wh) (nI tl) (nI ne) (nI nf) (nI na) (nI an) (nI tm) (nI cn) (nI cs) (nI bd) (nI lt) (nI (nt + 1)) fx fy) m22 (gm_ne m22 eh (fun h => by cases h))
                        have h_165 := gm_pass (k := h) (y := moO h (nI le) bp (nI nr) (nI wh) (nI tl) (nI ne) (nI nf) (nI na) (nI an) (nI tm) (nI cn) (nI cs) (nI bd) (nI lt) (nI (nt + 1)) fx fy) m23 (gm_ne m23 eh (fun h => by cases h))
                        have h_166 := gm_up_self M h (moO h (nI le) bp (nI nr) (nI wh) (nI tl) (nI ne) (nI nf) (nI na) (nI an) (nI tm) (nI cn) (nI cs) (nI bd) (nI lt) (nI (nt + 1)) fx fy)
                        refine W.eq (g2 := F0 m 284 ls [.int (-7)]) rfl ?_
                        rw [← hQ]
                        exact gc_iret hx hb hr hlk hP hS d_Mo_outward_284 ⟨rfl, Or.inr ⟨pr0, f0, (-7), fl, nf, em, cs, lt, (nt + 1), an, mq, fx, fy, ⟨rfl, hpr0⟩, ⟨rfl, hf0⟩, (by unfold outF; rw [if_neg (by omega), c_17]; simp only [hp_137]; rw [if_neg (by omega), if_neg (by omega)]; unfold openO; rw [if_neg (by omega), if_pos (by omega)]), hRF, (Or.inr ⟨by decide, rfl, rfl, rfl⟩), h_166, h_156, h_157, h_158, h_159, h_160, h_161, h_162, h_163, h_164, h_165, h_151, (fun z q0 q1 q2 q3 q4 q5 q6 q7 q8 q9 q10 q11 => (gm_up_ne _ _ q0).trans (rfl)), rfl⟩⟩
                      · skip
                        refine lv_iload hx hb d_Mo_outward_273 (lv_at hl 1 rfl) ?_
                        refine lz_ge (tgt := 285) hx hb d_Mo_outward_275 (by decide) (by omega) ?_
                        refine lv_aload_n hx hb d_Mo_outward_285 rfl (lv_at hl 3 rfl) ?_
                        refine lv_iload_n hx hb d_Mo_outward_286 rfl (lv_at hl 4 rfl) ?_
                        refine lv_iconst (v := nI 0) hx hb d_Mo_outward_287 (by decide) ?_
                        refine lv_aload_n hx hb d_Mo_outward_288 rfl (lv_at hl 3 rfl) ?_
                        refine gm_get (C := R_Mo) (T := F_Mo) (n := 44) hx hb htl i_Mo hown hK hP eh rfl 33 (by decide) (htl _ k_776) (fun _ h => h) rfl d_Mo_outward_289 ?_
                        refine lv_iconst (v := nI 0) hx hb d_Mo_outward_292 (by decide) ?_
                        refine gz_iald hx hb hK hP 0 m26 rfl (by omega) (by omega) d_Mo_outward_293 ?_
                        rw [show hd 0 = so / 256 from hhd.1]
                        refine lv_aload_n hx hb d_Mo_outward_294 rfl (lv_at hl 3 rfl) ?_
                        refine gm_get (C := R_Mo) (T := F_Mo) (n := 44) hx hb htl i_Mo hown hK hP eh rfl 33 (by decide) (htl _ k_776) (fun _ h => h) rfl d_Mo_outward_295 ?_
                        refine lv_iconst (v := nI 1) hx hb d_Mo_outward_298 (by decide) ?_
                        refine gz_iald hx hb hK hP 0 m26 rfl (by omega) (by omega) d_Mo_outward_299 ?_
                        rw [show hd 1 = so % 256 from hhd.2.1]
                        refine lv_aload_n hx hb d_Mo_outward_300 rfl (lv_at hl 3 rfl) ?_
                        refine gm_get (C := R_Mo) (T := F_Mo) (n := 44) hx hb htl i_Mo hown hK hP eh rfl 33 (by decide) (htl _ k_776) (fun _ h => h) rfl d_Mo_outward_301 ?_
                        refine lv_iconst (v := nI 2) hx hb d_Mo_outward_304 (by decide) ?_
                        refine gz_iald hx hb hK hP 0 m26 rfl (by omega) (by omega) d_Mo_outward_305 ?_
                        rw [show hd 2 = ta / 256 from hhd.2.2.1]
                        refine lv_aload_n hx hb d_Mo_outward_306 rfl (lv_at hl 3 rfl) ?_
                        refine gm_get (C := R_Mo) (T := F_Mo) (n := 44) hx hb htl i_Mo hown hK hP eh rfl 33 (by decide) (htl _ k_776) (fun _ h => h) rfl d_Mo_outward_307 ?_
                        refine lv_iconst (v := nI 3) hx hb d_Mo_outward_310 (by decide) ?_
                        refine gz_iald hx hb hK hP 0 m26 rfl (by omega) (by omega) d_Mo_outward_311 ?_
                        rw [show hd 3 = ta % 256 from hhd.2.2.2]
                        refine lv_iload hx hb d_Mo_outward_312 (lv_at hl 1 rfl) ?_
                        refine gc_V (q := (R_Mo, F_Mo, 44)) (n := 7) [.int (nI pr0), .int (nI 0), .int (nI (so / 256)), .int (nI (so % 256)), .int (nI (ta / 256)), .int (nI (ta % 256)), .int (nI vv_130)] [] hx hb hml hown hts hK hN hX hP hS (c_Mo_openFlow (fl := fl) (i0 := so) (o0 := ta) eh m14 m15 m16 m17 m18 m19 m20 m21 m22 m23 hRF (by omega) hF (by omega) (by omega) (by omega) (by omega)) rfl eh k_990 k_992 ks_Mo_openFlow k_10 k_993 (by decide +kernel) ⟨by decide, by decide⟩ rfl hl.1 rfl (Nat.le_of_ble_eq_true rfl) d_Mo_outward_314 ⟨by decide, by decide⟩ (fun r N1 M_168 H locs hw hP hS => ?_)
                        obtain ⟨rfl, hw⟩ := hw
                        obtain ⟨mq1v_169, c_170, h_171, h_172, h_173, h_174, h_175, h_176, h_177, h_178, h_179, h_180, h_181, hfr_182⟩ := hw
                        have h_183 := (hfr_182 _ (gm_ne m2 eh (fun h => by cases h)) (by omega) (by omega) (by omega) (by omega) (by omega) (by omega) (by omega) (by omega) (by omega) (by omega)).trans m2
                        have h_184 := (hfr_182 _ (gm_ne m3 eh (fun h => by cases h)) (by omega) (by omega) (by omega) (by omega) (by omega) (by omega) (by omega) (by omega) (by omega) (by omega)).trans m3
                        have h_185 := (hfr_182 _ (gm_ne m4 eh (fun h => by cases h)) (by omega) (by omega) (by omega) (by omega) (by omega) (by omega) (by omega) (by omega) (by omega) (by omega)).trans m4
                        have h_186 := (hfr_182 _ (gm_ne m5 eh (fun h => by cases h)) (gm_ne m5 m14 (fun h => by simp at h)) (gm_ne m5 m15 (fun h => by simp at h)) (gm_ne m5 m16 (fun h => by simp at h)) (gm_ne m5 m17 (fun h => by simp at h)) (gm_ne m5 m18 (fun h => by simp at h)) (gm_ne m5 m19 (fun h => by simp at h)) (gm_ne m5 m20 (fun h => by simp at h)) (gm_ne m5 m21 (fun h => by simp at h)) (gm_ne m5 m22 (fun h => by simp at h)) (gm_ne m5 m23 (fun h => by simp at h))).trans m5
                        have h_187 := (hfr_182 _ (gm_ne m6 eh (fun h => by cases h)) (gm_ne m6 m14 (fun h => by simp at h)) (gm_ne m6 m15 (fun h => by simp at h)) (gm_ne m6 m16 (fun h => by simp at h)) (gm_ne m6 m17 (fun h => by simp at h)) (gm_ne m6 m18 (fun h => by simp at h)) (gm_ne m6 m19 (fun h => by simp at h)) (gm_ne m6 m20 (fun h => by simp at h)) (gm_ne m6 m21 (fun h => by simp at h)) (gm_ne m6 m22 (fun h => by simp at h)) (gm_ne m6 m23 (fun h => by simp at h))).trans m6
                        have h_188 := (hfr_182 _ (gm_ne m26 eh (fun h => by cases h)) (gm_ne m26 m14 (fun h => by simp at h)) (gm_ne m26 m15 (fun h => by simp at h)) (gm_ne m26 m16 (fun h => by simp at h)) (gm_ne m26 m17 (fun h => by simp at h)) (gm_ne m26 m18 (fun h => by simp at h)) (gm_ne m26 m19 (fun h => by simp at h)) (gm_ne m26 m20 (fun h => by simp at h)) (gm_ne m26 m21 (fun h => by simp at h)) (gm_ne m26 m22 (fun h => by simp at h)) (gm_ne m26 m23 (fun h => by simp at h))).trans m26
                        have h_189 := (hfr_182 _ (gm_ne m27 eh (fun h => by cases h)) (gm_ne m27 m14 (fun h => by simp at h)) (gm_ne m27 m15 (fun h => by simp at h)) (gm_ne m27 m16 (fun h => by simp at h)) (gm_ne m27 m17 (fun h => by simp at h)) (gm_ne m27 m18 (fun h => by simp at h)) (gm_ne m27 m19 (fun h => by simp at h)) (gm_ne m27 m20 (fun h => by simp at h)) (gm_ne m27 m21 (fun h => by simp at h)) (gm_ne m27 m22 (fun h => by simp at h)) (gm_ne m27 m23 (fun h => by simp at h))).trans m27
                        have h_190 := (hfr_182 _ (gm_ne m10 eh (fun h => by cases h)) (gm_ne m10 m14 (fun h => by simp at h)) (gm_ne m10 m15 (fun h => by simp at h)) (gm_ne m10 m16 (fun h => by simp at h)) (gm_ne m10 m17 (fun h => by simp at h)) (gm_ne m10 m18 (fun h => by simp at h)) (gm_ne m10 m19 (fun h => by simp at h)) (gm_ne m10 m20 (fun h => by simp at h)) (gm_ne m10 m21 (fun h => by simp at h)) (gm_ne m10 m22 (fun h => by simp at h)) (gm_ne m10 m23 (fun h => by simp at h))).trans m10
                        have h_191 := (hfr_182 _ (gm_ne m11 eh (fun h => by cases h)) (gm_ne m11 m14 (fun h => by simp at h)) (gm_ne m11 m15 (fun h => by simp at h)) (gm_ne m11 m16 (fun h => by simp at h)) (gm_ne m11 m17 (fun h => by simp at h)) (gm_ne m11 m18 (fun h => by simp at h)) (gm_ne m11 m19 (fun h => by simp at h)) (gm_ne m11 m20 (fun h => by simp at h)) (gm_ne m11 m21 (fun h => by simp at h)) (gm_ne m11 m22 (fun h => by simp at h)) (gm_ne m11 m23 (fun h => by simp at h))).trans m11
                        have h_192 := (hfr_182 _ (gm_ne m12 eh (fun h => by cases h)) (gm_ne m12 m14 (fun h => by simp at h)) (gm_ne m12 m15 (fun h => by simp at h)) (gm_ne m12 m16 (fun h => by simp at h)) (gm_ne m12 m17 (fun h => by simp at h)) (gm_ne m12 m18 (fun h => by simp at h)) (gm_ne m12 m19 (fun h => by simp at h)) (gm_ne m12 m20 (fun h => by simp at h)) (gm_ne m12 m21 (fun h => by simp at h)) (gm_ne m12 m22 (fun h => by simp at h)) (gm_ne m12 m23 (fun h => by simp at h))).trans m12
                        have h_193 := (hfr_182 _ (gm_ne m13 eh (fun h => by cases h)) (gm_ne m13 m14 (fun h => by simp at h)) (gm_ne m13 m15 (fun h => by simp at h)) (gm_ne m13 m16 (fun h => by simp at h)) (gm_ne m13 m17 (fun h => by simp at h)) (gm_ne m13 m18 (fun h => by simp at h)) (gm_ne m13 m19 (fun h => by simp at h)) (gm_ne m13 m20 (fun h => by simp at h)) (gm_ne m13 m21 (fun h => by simp at h)) (gm_ne m13 m22 (fun h => by simp at h)) (gm_ne m13 m23 (fun h => by simp at h))).trans m13
                        refine W.eq (g2 := F0 m 317 ls []) rfl ?_
                        refine lv_aload_n hx hb d_Mo_outward_317 rfl (lv_at hl 3 rfl) ?_
                        refine lv_iconst (v := nI 0) hx hb d_Mo_outward_318 (by decide) ?_
                        refine lv_sipush (v := nI 200) hx hb d_Mo_outward_319 (by decide) ?_
                        refine lv_iload hx hb d_Mo_outward_322 (lv_at hl 1 rfl) ?_
                        refine lv_aload_n hx hb d_Mo_outward_324 rfl (lv_at hl 3 rfl) ?_
                        refine gm_get (C := R_Mo) (T := F_Mo) (n := 44) hx hb htl i_Mo hown hK hP h_171 rfl 33 (by decide) (htl _ k_776) (fun _ h => h) rfl d_Mo_outward_325 ?_
                        refine lv_iconst (v := nI 2) hx hb d_Mo_outward_328 (by decide) ?_
                        refine gz_iald hx hb hK hP 0 h_188 rfl (by omega) (by omega) d_Mo_outward_329 ?_
                        rw [show hd 2 = ta / 256 from hhd.2.2.1]
                        refine lv_aload_n hx hb d_Mo_outward_330 rfl (lv_at hl 3 rfl) ?_
                        refine gm_get (C := R_Mo) (T := F_Mo) (n := 44) hx hb htl i_Mo hown hK hP h_171 rfl 33 (by decide) (htl _ k_776) (fun _ h => h) rfl d_Mo_outward_331 ?_
                        refine lv_iconst (v := nI 3) hx hb d_Mo_outward_334 (by decide) ?_
                        refine gz_iald hx hb hK hP 0 h_188 rfl (by omega) (by omega) d_Mo_outward_335 ?_
                        rw [show hd 3 = ta % 256 from hhd.2.2.2]
                        refine gc_V (q := (R_Mo, F_Mo, 44)) (n := 5) [.int (nI 0), .int (nI 200), .int (nI vv_130), .int (nI (ta / 256)), .int (nI (ta % 256))] [] hx hb hml hown hts hK hN hX hP hS (c_Mo_emit (nI 0) h_171 h_189) rfl h_171 k_975 k_977 ks_Mo_emit k_10 k_978 (by decide +kernel) ⟨by decide, by decide⟩ rfl hl.1 rfl (Nat.le_of_ble_eq_true rfl) d_Mo_outward_336 ⟨by decide, by decide⟩ (fun r N1 M_194 H locs hw hP hS => ?_)
                        obtain ⟨rfl, hw⟩ := hw
                        obtain ⟨rfl, rfl⟩ := hw
                        have h_195 := gm_pass (k := (h + 27)) (y := .inl (ca 0, 4, .inl (iN (eUp em 200 vv_130 (ta / 256) (ta % 256))))) h_183 (gm_ne h_183 h_189 (fun h => by simp at h))
                        have h_196 := gm_pass (k := (h + 27)) (y := .inl (ca 0, 4, .inl (iN (eUp em 200 vv_130 (ta / 256) (ta % 256))))) h_184 (gm_ne h_184 h_189 (fun h => by simp at h))
                        have h_197 := gm_pass (k := (h + 27)) (y := .inl (ca 0, 4, .inl (iN (eUp em 200 vv_130 (ta / 256) (ta % 256))))) h_185 (gm_ne h_185 h_189 (fun h => by simp at h))
                        have h_198 := gm_pass (k := (h + 27)) (y := .inl (ca 0, 4, .inl (iN (eUp em 200 vv_130 (ta / 256) (ta % 256))))) h_186 (gm_ne h_186 h_189 (fun h => by simp at h))
                        have h_199 := gm_pass (k := (h + 27)) (y := .inl (ca 0, 4, .inl (iN (eUp em 200 vv_130 (ta / 256) (ta % 256))))) h_187 (gm_ne h_187 h_189 (fun h => by simp at h))
                        have h_200 := gm_pass (k := (h + 27)) (y := .inl (ca 0, 4, .inl (iN (eUp em 200 vv_130 (ta / 256) (ta % 256))))) h_188 (by omega)
                        have h_201 := gm_pass (k := (h + 27)) (y := .inl (ca 0, 4, .inl (iN (eUp em 200 vv_130 (ta / 256) (ta % 256))))) h_190 (gm_ne h_190 h_189 (fun h => by simp at h))
                        have h_202 := gm_pass (k := (h + 27)) (y := .inl (ca 0, 4, .inl (iN (eUp em 200 vv_130 (ta / 256) (ta % 256))))) h_191 (gm_ne h_191 h_189 (fun h => by simp at h))
                        have h_203 := gm_pass (k := (h + 27)) (y := .inl (ca 0, 4, .inl (iN (eUp em 200 vv_130 (ta / 256) (ta % 256))))) h_192 (gm_ne h_192 h_189 (fun h => by simp at h))
                        have h_204 := gm_pass (k := (h + 27)) (y := .inl (ca 0, 4, .inl (iN (eUp em 200 vv_130 (ta / 256) (ta % 256))))) h_193 (gm_ne h_193 h_189 (fun h => by simp at h))
                        have h_205 := gm_pass (k := (h + 27)) (y := .inl (ca 0, 4, .inl (iN (eUp em 200 vv_130 (ta / 256) (ta % 256))))) h_171 (gm_ne h_171 h_189 (fun h => by cases h))
                        have h_206 := gm_pass (k := (h + 27)) (y := .inl (ca 0, 4, .inl (iN (eUp em 200 vv_130 (ta / 256) (ta % 256))))) h_172 (gm_ne h_172 h_189 (fun h => by simp at h))
                        have h_207 := gm_pass (k := (h + 27)) (y := .inl (ca 0, 4, .inl (iN (eUp em 200 vv_130 (ta / 256) (ta % 256))))) h_173 (gm_ne h_173 h_189 (fun h => by simp at h))
                        have h_208 := gm_pass (k := (h + 27)) (y := .inl (ca 0, 4, .inl (iN (eUp em 200 vv_130 (ta / 256) (ta % 256))))) h_174 (gm_ne h_174 h_189 (fun h => by simp at h))
                        have h_209 := gm_pass (k := (h + 27)) (y := .inl (ca 0, 4, .inl (iN (eUp em 200 vv_130 (ta / 256) (ta % 256))))) h_175 (gm_ne h_175 h_189 (fun h => by simp at h))
                        have h_210 := gm_pass (k := (h + 27)) (y := .inl (ca 0, 4, .inl (iN (eUp em 200 vv_130 (ta / 256) (ta % 256))))) h_176 (gm_ne h_176 h_189 (fun h => by simp at h))
                        have h_211 := gm_pass (k := (h + 27)) (y := .inl (ca 0, 4, .inl (iN (eUp em 200 vv_130 (ta / 256) (ta % 256))))) h_177 (gm_ne h_177 h_189 (fun h => by simp at h))
                        have h_212 := gm_pass (k := (h + 27)) (y := .inl (ca 0, 4, .inl (iN (eUp em 200 vv_130 (ta / 256) (ta % 256))))) h_178 (gm_ne h_178 h_189 (fun h => by simp at h))
                        have h_213 := gm_pass (k := (h + 27)) (y := .inl (ca 0, 4, .inl (iN (eUp em 200 vv_130 (ta / 256) (ta % 256))))) h_179 (gm_ne h_179 h_189 (fun h => by simp at h))
                        have h_214 := gm_pass (k := (h + 27)) (y := .inl (ca 0, 4, .inl (iN (eUp em 200 vv_130 (ta / 256) (ta % 256))))) h_180 (gm_ne h_180 h_189 (fun h => by simp at h))
                        have h_215 := gm_pass (k := (h + 27)) (y := .inl (ca 0, 4, .inl (iN (eUp em 200 vv_130 (ta / 256) (ta % 256))))) h_181 (gm_ne h_181 h_189 (fun h => by simp at h))
                        have h_216 := gm_up_self M_168 (h + 27) (.inl (ca 0, 4, .inl (iN (eUp em 200 vv_130 (ta / 256) (ta % 256)))))
                        have hP : gm_P D cls A N (gm_up (gm_up M_168 (h + 27) (.inl (ca 0, 4, .inl (iN (eUp em 200 vv_130 (ta / 256) (ta % 256)))))) h (moO h (nI le) bp (nI nr) (nI wh) (nI tl) (nI ne) (nI (nf + 1)) (nI na) (nI 1) (nI tm) (nI cn) (nI cs) (nI bd) (nI (lt + 1)) (nI nt) fx fy)) H := hP
                        have h_217 := gm_pass (k := h) (y := moO h (nI le) bp (nI nr) (nI wh) (nI tl) (nI ne) (nI (nf + 1)) (nI na) (nI 1) (nI tm) (nI cn) (nI cs) (nI bd) (nI (lt + 1)) (nI nt) fx fy) h_195 (gm_ne h_195 h_205 (fun h => by cases h))
                        have h_218 := gm_pass (k := h) (y := moO h (nI le) bp (nI nr) (nI wh) (nI tl) (nI ne) (nI (nf + 1)) (nI na) (nI 1) (nI tm) (nI cn) (nI cs) (nI bd) (nI (lt + 1)) (nI nt) fx fy) h_196 (gm_ne h_196 h_205 (fun h => by cases h))
                        have h_219 := gm_pass (k := h) (y := moO h (nI le) bp (nI nr) (nI wh) (nI tl) (nI ne) (nI (nf + 1)) (nI na) (nI 1) (nI tm) (nI cn) (nI cs) (nI bd) (nI (lt + 1)) (nI nt) fx fy) h_197 (gm_ne h_197 h_205 (fun h => by cases h))
                        have h_220 := gm_pass (k := h) (y := moO h (nI le) bp (nI nr) (nI wh) (nI tl) (nI ne) (nI (nf + 1)) (nI na) (nI 1) (nI tm) (nI cn) (nI cs) (nI bd) (nI (lt + 1)) (nI nt) fx fy) h_198 (gm_ne h_198 h_205 (fun h => by cases h))
                        have h_221 := gm_pass (k := h) (y := moO h (nI le) bp (nI nr) (nI wh) (nI tl) (nI ne) (nI (nf + 1)) (nI na) (nI 1) (nI tm) (nI cn) (nI cs) (nI bd) (nI (lt + 1)) (nI nt) fx fy) h_199 (gm_ne h_199 h_205 (fun h => by cases h))
                        have h_222 := gm_pass (k := h) (y := moO h (nI le) bp (nI nr) (nI wh) (nI tl) (nI ne) (nI (nf + 1)) (nI na) (nI 1) (nI tm) (nI cn) (nI cs) (nI bd) (nI (lt + 1)) (nI nt) fx fy) h_200 (gm_ne h_200 h_205 (fun h => by cases h))
                        have h_223 := gm_pass (k := h) (y := moO h (nI le) bp (nI nr) (nI wh) (nI tl) (nI ne) (nI (nf + 1)) (nI na) (nI 1) (nI tm) (nI cn) (nI cs) (nI bd) (nI (lt + 1)) (nI nt) fx fy) h_201 (gm_ne h_201 h_205 (fun h => by cases h))
                        have h_224 := gm_pass (k := h) (y := moO h (nI le) bp (nI nr) (nI wh) (nI tl) (nI ne) (nI (nf + 1)) (nI na) (nI 1) (nI tm) (nI cn) (nI cs) (nI bd) (nI (lt + 1)) (nI nt) fx fy) h_202 (gm_ne h_202 h_205 (fun h => by cases h))
                        have h_225 := gm_pass (k := h) (y := moO h (nI le) bp (nI nr) (nI wh) (nI tl) (nI ne) (nI (nf + 1)) (nI na) (nI 1) (nI tm) (nI cn) (nI cs) (nI bd) (nI (lt + 1)) (nI nt) fx fy) h_203 (gm_ne h_203 h_205 (fun h => by cases h))
                        have h_226 := gm_pass (k := h) (y := moO h (nI le) bp (nI nr) (nI wh) (nI tl) (nI ne) (nI (nf + 1)) (nI na) (nI 1) (nI tm) (nI cn) (nI cs) (nI bd) (nI (lt + 1)) (nI nt) fx fy) h_204 (gm_ne h_204 h_205 (fun h => by cases h))
                        have h_227 := gm_pass (k := h) (y := moO h (nI le) bp (nI nr) (nI wh) (nI tl) (nI ne) (nI (nf + 1)) (nI na) (nI 1) (nI tm) (nI cn) (nI cs) (nI bd) (nI (lt + 1)) (nI nt) fx fy) h_206 (gm_ne h_206 h_205 (fun h => by cases h))
                        have h_228 := gm_pass (k := h) (y := moO h (nI le) bp (nI nr) (nI wh) (nI tl) (nI ne) (nI (nf + 1)) (nI na) (nI 1) (nI tm) (nI cn) (nI cs) (nI bd) (nI (lt + 1)) (nI nt) fx fy) h_207 (gm_ne h_207 h_205 (fun h => by cases h))
                        have h_229 := gm_pass (k := h) (y := moO h (nI le) bp (nI nr) (nI wh) (nI tl) (nI ne) (nI (nf + 1)) (nI na) (nI 1) (nI tm) (nI cn) (nI cs) (nI bd) (nI (lt + 1)) (nI nt) fx fy) h_208 (gm_ne h_208 h_205 (fun h => by cases h))
                        have h_230 := gm_pass (k := h) (y := moO h (nI le) bp (nI nr) (nI wh) (nI tl) (nI ne) (nI (nf + 1)) (nI na) (nI 1) (nI tm) (nI cn) (nI cs) (nI bd) (nI (lt + 1)) (nI nt) fx fy) h_209 (gm_ne h_209 h_205 (fun h => by cases h))
                        have h_231 := gm_pass (k := h) (y := moO h (nI le) bp (nI nr) (nI wh) (nI tl) (nI ne) (nI (nf + 1)) (nI na) (nI 1) (nI tm) (nI cn) (nI cs) (nI bd) (nI (lt + 1)) (nI nt) fx fy) h_210 (gm_ne h_210 h_205 (fun h => by cases h))
                        have h_232 := gm_pass (k := h) (y := moO h (nI le) bp (nI nr) (nI wh) (nI tl) (nI ne) (nI (nf + 1)) (nI na) (nI 1) (nI tm) (nI cn) (nI cs) (nI bd) (nI (lt + 1)) (nI nt) fx fy) h_211 (gm_ne h_211 h_205 (fun h => by cases h))
                        have h_233 := gm_pass (k := h) (y := moO h (nI le) bp (nI nr) (nI wh) (nI tl) (nI ne) (nI (nf + 1)) (nI na) (nI 1) (nI tm) (nI cn) (nI cs) (nI bd) (nI (lt + 1)) (nI nt) fx fy) h_212 (gm_ne h_212 h_205 (fun h => by cases h))
                        have h_234 := gm_pass (k := h) (y := moO h (nI le) bp (nI nr) (nI wh) (nI tl) (nI ne) (nI (nf + 1)) (nI na) (nI 1) (nI tm) (nI cn) (nI cs) (nI bd) (nI (lt + 1)) (nI nt) fx fy) h_213 (gm_ne h_213 h_205 (fun h => by cases h))
                        have h_235 := gm_pass (k := h) (y := moO h (nI le) bp (nI nr) (nI wh) (nI tl) (nI ne) (nI (nf + 1)) (nI na) (nI 1) (nI tm) (nI cn) (nI cs) (nI bd) (nI (lt + 1)) (nI nt) fx fy) h_214 (gm_ne h_214 h_205 (fun h => by cases h))
                        have h_236 := gm_pass (k := h) (y := moO h (nI le) bp (nI nr) (nI wh) (nI tl) (nI ne) (nI (nf + 1)) (nI na) (nI 1) (nI tm) (nI cn) (nI cs) (nI bd) (nI (lt + 1)) (nI nt) fx fy) h_215 (gm_ne h_215 h_205 (fun h => by cases h))
                        have h_237 := gm_pass (k := h) (y := moO h (nI le) bp (nI nr) (nI wh) (nI tl) (nI ne) (nI (nf + 1)) (nI na) (nI 1) (nI tm) (nI cn) (nI cs) (nI bd) (nI (lt + 1)) (nI nt) fx fy) h_216 (gm_ne h_216 h_205 (fun h => by cases h))
                        have h_238 := gm_up_self (gm_up M_168 (h + 27) (.inl (ca 0, 4, .inl (iN (eUp em 200 vv_130 (ta / 256) (ta % 256)))))) h (moO h (nI le) bp (nI nr) (nI wh) (nI tl) (nI ne) (nI (nf + 1)) (nI na) (nI 1) (nI tm) (nI cn) (nI cs) (nI bd) (nI (lt + 1)) (nI nt) fx fy)
                        refine W.eq (g2 := F0 m 339 ls [.int (nI 0)]) rfl ?_
                        rw [← hQ]
                        exact gc_iret hx hb hr hlk hP hS d_Mo_outward_339 ⟨rfl, Or.inr ⟨pr0, f0, (nI 0), _, (nf + 1), (eUp em 200 vv_130 (ta / 256) (ta % 256)), cs, (lt + 1), nt, 1, mq1v_169, fx, fy, ⟨rfl, hpr0⟩, ⟨rfl, hf0⟩, (by unfold outF; rw [if_neg (by omega), c_17]; simp only [hp_137]; rw [if_neg (by omega), if_neg (by omega)]; unfold openO; rw [if_neg (by omega), if_neg (by omega), c_131]; rfl), c_170, (Or.inl ⟨by decide, rfl, rfl, rfl⟩), h_238, h_227, h_228, h_229, h_230, h_231, h_232, h_233, h_234, h_235, h_236, h_237, (fun z q0 q1 q2 q3 q4 q5 q6 q7 q8 q9 q10 q11 => (gm_up_ne _ _ q0).trans ((gm_up_ne _ _ q11).trans ((hfr_182 z q0 q1 q2 q3 q4 q5 q6 q7 q8 q9 q10).trans (rfl)))), rfl⟩⟩
                    · skip
                      refine lv_iload_n hx hb d_Mo_outward_240 rfl (lv_at hl 5 rfl) ?_
                      refine lv_iconst (v := nI 1) hx hb d_Mo_outward_241 (by decide) ?_
                      refine ln_eq (tgt := 252) hx hb d_Mo_outward_242 (by decide) (by omega) (by omega) (fun c_239 => ?_) (fun c_239 => ?_)
                      · skip
                        refine lv_iload hx hb d_Mo_outward_252 (lv_at hl 1 rfl) ?_
                        refine lz_ge (tgt := 264) hx hb d_Mo_outward_254 (by decide) (by omega) ?_
                        refine lv_aload_n hx hb d_Mo_outward_264 rfl (lv_at hl 3 rfl) ?_
                        refine gm_get (C := R_Mo) (T := F_Mo) (n := 44) hx hb htl i_Mo hown hK hP eh rfl 29 (by decide) (htl _ k_772) (fun _ h => h) rfl d_Mo_outward_265 ?_
                        refine lv_bipush (v := nI 16) hx hb d_Mo_outward_268 (by decide) ?_
                        refine ln_eq (tgt := 278) hx hb d_Mo_outward_270 (by decide) (by omega) (by omega) (fun c_241 => ?_) (fun c_241 => ?_)
                        · skip
                          refine lv_aload_n hx hb d_Mo_outward_278 rfl (lv_at hl 3 rfl) ?_
                          refine lv_bipush (v := (-7)) hx hb d_Mo_outward_279 (by decide) ?_
                          refine gc_V (q := (R_Mo, F_Mo, 44)) (n := 1) [.int (-7)] [] hx hb hml hown hts hK hN hX hP hS (c_Mo_stop (-7) eh) rfl eh k_959 k_961 ks_Mo_stop k_10 k_962 (by decide +kernel) ⟨by decide, by decide⟩ rfl hl.1 rfl (Nat.le_of_ble_eq_true rfl) d_Mo_outward_281 ⟨by decide, by decide⟩ (fun r N1 M_242 H locs hw hP hS => ?_)
                          obtain ⟨rfl, hw⟩ := hw
                          obtain ⟨rfl, rfl⟩ := hw
                          have hP : gm_P D cls A N (gm_up M h (moO h (nI le) bp (nI nr) (nI wh) (nI tl) (nI ne) (nI nf) (nI na) (nI an) (nI tm) (nI cn) (nI cs) (nI bd) (nI lt) (nI (nt + 1)) fx fy)) H := hP
                          have h_243 := gm_pass (k := h) (y := moO h (nI le) bp (nI nr) (nI wh) (nI tl) (nI ne) (nI nf) (nI na) (nI an) (nI tm) (nI cn) (nI cs) (nI bd) (nI lt) (nI (nt + 1)) fx fy) m2 (gm_ne m2 eh (fun h => by cases h))
                          have h_244 := gm_pass (k := h) (y := moO h (nI le) bp (nI nr) (nI wh) (nI tl) (nI ne) (nI nf) (nI na) (nI an) (nI tm) (nI cn) (nI cs) (nI bd) (nI lt) (nI (nt + 1)) fx fy) m3 (gm_ne m3 eh (fun h => by cases h))
                          have h_245 := gm_pass (k := h) (y := moO h (nI le) bp (nI nr) (nI wh) (nI tl) (nI ne) (nI nf) (nI na) (nI an) (nI tm) (nI cn) (nI cs) (nI bd) (nI lt) (nI (nt + 1)) fx fy) m4 (gm_ne m4 eh (fun h => by cases h))
                          have h_246 := gm_pass (k := h) (y := moO h (nI le) bp (nI nr) (nI wh) (nI tl) (nI ne) (nI nf) (nI na) (nI an) (nI tm) (nI cn) (nI cs) (nI bd) (nI lt) (nI (nt + 1)) fx fy) m5 (gm_ne m5 eh (fun h => by cases h))
                          have h_247 := gm_pass (k := h) (y := moO h (nI le) bp (nI nr) (nI wh) (nI tl) (nI ne) (nI nf) (nI na) (nI an) (nI tm) (nI cn) (nI cs) (nI bd) (nI lt) (nI (nt + 1)) fx fy) m6 (gm_ne m6 eh (fun h => by cases h))
                          have h_248 := gm_pass (k := h) (y := moO h (nI le) bp (nI nr) (nI wh) (nI tl) (nI ne) (nI nf) (nI na) (nI an) (nI tm) (nI cn) (nI cs) (nI bd) (nI lt) (nI (nt + 1)) fx fy) m26 (gm_ne m26 eh (fun h => by cases h))
                          have h_249 := gm_pass (k := h) (y := moO h (nI le) bp (nI nr) (nI wh) (nI tl) (nI ne) (nI nf) (nI na) (nI an) (nI tm) (nI cn) (nI cs) (nI bd) (nI lt) (nI (nt + 1)) fx fy) m27 (gm_ne m27 eh (fun h => by cases h))
                          have h_250 := gm_pass (k := h) (y := moO h (nI le) bp (nI nr) (nI wh) (nI tl) (nI ne) (nI nf) (nI na) (nI an) (nI tm) (nI cn) (nI cs) (nI bd) (nI lt) (nI (nt + 1)) fx fy) m10 (gm_ne m10 eh (fun h => by cases h))
                          have h_251 := gm_pass (k := h) (y := moO h (nI le) bp (nI nr) (nI wh) (nI tl) (nI ne) (nI nf) (nI na) (nI an) (nI tm) (nI cn) (nI cs) (nI bd) (nI lt) (nI (nt + 1)) fx fy) m11 (gm_ne m11 eh (fun h => by cases h))
                          have h_252 := gm_pass (k := h) (y := moO h (nI le) bp (nI nr) (nI wh) (nI tl) (nI ne) (nI nf) (nI na) (nI an) (nI tm) (nI cn) (nI cs) (nI bd) (nI lt) (nI (nt + 1)) fx fy) m12 (gm_ne m12 eh (fun h => by cases h))
                          have h_253 := gm_pass (k := h) (y := moO h (nI le) bp (nI nr) (nI wh) (nI tl) (nI ne) (nI nf) (nI na) (nI an) (nI tm) (nI cn) (nI cs) (nI bd) (nI lt) (nI (nt + 1)) fx fy) m13 (gm_ne m13 eh (fun h => by cases h))
                          have h_254 := gm_pass (k := h) (y := moO h (nI le) bp (nI nr) (nI wh) (nI tl) (nI ne) (nI nf) (nI na) (nI an) (nI tm) (nI cn) (nI cs) (nI bd) (nI lt) (nI (nt + 1)) fx fy) m14 (gm_ne m14 eh (fun h => by cases h))
                          have h_255 := gm_pass (k := h) (y := moO h (nI le) bp (nI nr) (nI wh) (nI tl) (nI ne) (nI nf) (nI na) (nI an) (nI tm) (nI cn) (nI cs) (nI bd) (nI lt) (nI (nt + 1)) fx fy) m15 (gm_ne m15 eh (fun h => by cases h))
                          have h_256 := gm_pass (k := h) (y := moO h (nI le) bp (nI nr) (nI wh) (nI tl) (nI ne) (nI nf) (nI na) (nI an) (nI tm) (nI cn) (nI cs) (nI bd) (nI lt) (nI (nt + 1)) fx fy) m16 (gm_ne m16 eh (fun h => by cases h))
                          have h_257 := gm_pass (k := h) (y := moO h (nI le) bp (nI nr) (nI wh) (nI tl) (nI ne) (nI nf) (nI na) (nI an) (nI tm) (nI cn) (nI cs) (nI bd) (nI lt) (nI (nt + 1)) fx fy) m17 (gm_ne m17 eh (fun h => by cases h))
                          have h_258 := gm_pass (k := h) (y := moO h (nI le) bp (nI nr) (nI wh) (nI tl) (nI ne) (nI nf) (nI na) (nI an) (nI tm) (nI cn) (nI cs) (nI bd) (nI lt) (nI (nt + 1)) fx fy) m18 (gm_ne m18 eh (fun h => by cases h))
                          have h_259 := gm_pass (k := h) (y := moO h (nI le) bp (nI nr) (nI wh) (nI tl) (nI ne) (nI nf) (nI na) (nI an) (nI tm) (nI cn) (nI cs) (nI bd) (nI lt) (nI (nt + 1)) fx fy) m19 (gm_ne m19 eh (fun h => by cases h))
                          have h_260 := gm_pass (k := h) (y := moO h (nI le) bp (nI nr) (nI wh) (nI tl) (nI ne) (nI nf) (nI na) (nI an) (nI tm) (nI cn) (nI cs) (nI bd) (nI lt) (nI (nt + 1)) fx fy) m20 (gm_ne m20 eh (fun h => by cases h))
                          have h_261 := gm_pass (k := h) (y := moO h (nI le) bp (nI nr) (nI wh) (nI tl) (nI ne) (nI nf) (nI na) (nI an) (nI tm) (nI cn) (nI cs) (nI bd) (nI lt) (nI (nt + 1)) fx fy) m21 (gm_ne m21 eh (fun h => by cases h))
                          have h_262 := gm_pass (k := h) (y := moO h (nI le) bp (nI nr) (nI wh) (nI tl) (nI ne) (nI nf) (nI na) (nI an) (nI tm) (nI cn) (nI cs) (nI bd) (nI lt) (nI (nt + 1)) fx fy) m22 (gm_ne m22 eh (fun h => by cases h))
                          have h_263 := gm_pass (k := h) (y := moO h (nI le) bp (nI nr) (nI wh) (nI tl) (nI ne) (nI nf) (nI na) (nI an) (nI tm) (nI cn) (nI cs) (nI bd) (nI lt) (nI (nt + 1)) fx fy) m23 (gm_ne m23 eh (fun h => by cases h))
                          have h_264 := gm_up_self M h (moO h (nI le) bp (nI nr) (nI wh) (nI tl) (nI ne) (nI nf) (nI na) (nI an) (nI tm) (nI cn) (nI cs) (nI bd) (nI lt) (nI (nt + 1)) fx fy)
                          refine W.eq (g2 := F0 m 284 ls [.int (-7)]) rfl ?_
                          rw [← hQ]
                          exact gc_iret hx hb hr hlk hP hS d_Mo_outward_284 ⟨rfl, Or.inr ⟨pr0, f0, (-7), fl, nf, em, cs, lt, (nt + 1), an, mq, fx, fy, ⟨rfl, hpr0⟩, ⟨rfl, hf0⟩, (by unfold outF; rw [if_neg (by omega), c_17]; simp only [hp_137]; rw [if_neg (by omega), if_neg (by omega)]; unfold openO; rw [if_neg (by omega), if_pos (by omega)]), hRF, (Or.inr ⟨by decide, rfl, rfl, rfl⟩), h_264, h_254, h_255, h_256, h_257, h_258, h_259, h_260, h_261, h_262, h_263, h_249, (fun z q0 q1 q2 q3 q4 q5 q6 q7 q8 q9 q10 q11 => (gm_up_ne _ _ q0).trans (rfl)), rfl⟩⟩
                        · skip
                          refine lv_iload hx hb d_Mo_outward_273 (lv_at hl 1 rfl) ?_
                          refine lz_ge (tgt := 285) hx hb d_Mo_outward_275 (by decide) (by omega) ?_
                          refine lv_aload_n hx hb d_Mo_outward_285 rfl (lv_at hl 3 rfl) ?_
                          refine lv_iload_n hx hb d_Mo_outward_286 rfl (lv_at hl 4 rfl) ?_
                          refine lv_iconst (v := nI 0) hx hb d_Mo_outward_287 (by decide) ?_
                          refine lv_aload_n hx hb d_Mo_outward_288 rfl (lv_at hl 3 rfl) ?_
                          refine gm_get (C := R_Mo) (T := F_Mo) (n := 44) hx hb htl i_Mo hown hK hP eh rfl 33 (by decide) (htl _ k_776) (fun _ h => h) rfl d_Mo_outward_289 ?_
                          refine lv_iconst (v := nI 0) hx hb d_Mo_outward_292 (by decide) ?_
                          refine gz_iald hx hb hK hP 0 m26 rfl (by omega) (by omega) d_Mo_outward_293 ?_
                          rw [show hd 0 = so / 256 from hhd.1]
                          refine lv_aload_n hx hb d_Mo_outward_294 rfl (lv_at hl 3 rfl) ?_
                          refine gm_get (C := R_Mo) (T := F_Mo) (n := 44) hx hb htl i_Mo hown hK hP eh rfl 33 (by decide) (htl _ k_776) (fun _ h => h) rfl d_Mo_outward_295 ?_
                          refine lv_iconst (v := nI 1) hx hb d_Mo_outward_298 (by decide) ?_
                          refine gz_iald hx hb hK hP 0 m26 rfl (by omega) (by omega) d_Mo_outward_299 ?_
                          rw [show hd 1 = so % 256 from hhd.2.1]
                          refine lv_aload_n hx hb d_Mo_outward_300 rfl (lv_at hl 3 rfl) ?_
                          refine gm_get (C := R_Mo) (T := F_Mo) (n := 44) hx hb htl i_Mo hown hK hP eh rfl 33 (by decide) (htl _ k_776) (fun _ h => h) rfl d_Mo_outward_301 ?_
                          refine lv_iconst (v := nI 2) hx hb d_Mo_outward_304 (by decide) ?_
                          refine gz_iald hx hb hK hP 0 m26 rfl (by omega) (by omega) d_Mo_outward_305 ?_
                          rw [show hd 2 = ta / 256 from hhd.2.2.1]
                          refine lv_aload_n hx hb d_Mo_outward_306 rfl (lv_at hl 3 rfl) ?_
                          refine gm_get (C := R_Mo) (T := F_Mo) (n := 44) hx hb htl i_Mo hown hK hP eh rfl 33 (by decide) (htl _ k_776) (fun _ h => h) rfl d_Mo_outward_307 ?_
                          refine lv_iconst (v := nI 3) hx hb d_Mo_outward_310 (by decide) ?_
                          refine gz_iald hx hb hK hP 0 m26 rfl (by omega) (by omega) d_Mo_outward_311 ?_
                          rw [show hd 3 = ta % 256 from hhd.2.2.2]
                          refine lv_iload hx hb d_Mo_outward_312 (lv_at hl 1 rfl) ?_
                          refine gc_V (q := (R_Mo, F_Mo, 44)) (n := 7) [.int (nI pr0), .int (nI 0), .int (nI (so / 256)), .int (nI (so % 256)), .int (nI (ta / 256)), .int (nI (ta % 256)), .int (nI vv_130)] [] hx hb hml hown hts hK hN hX hP hS (c_Mo_openFlow (fl := fl) (i0 := so) (o0 := ta) eh m14 m15 m16 m17 m18 m19 m20 m21 m22 m23 hRF (by omega) hF (by omega) (by omega) (by omega) (by omega)) rfl eh k_990 k_992 ks_Mo_openFlow k_10 k_993 (by decide +kernel) ⟨by decide, by decide⟩ rfl hl.1 rfl (Nat.le_of_ble_eq_true rfl) d_Mo_outward_314 ⟨by decide, by decide⟩ (fun r N1 M_266 H locs hw hP hS => ?_)
                          obtain ⟨rfl, hw⟩ := hw
                          obtain ⟨mq1v_267, c_268, h_269, h_270, h_271, h_272, h_273, h_274, h_275, h_276, h_277, h_278, h_279, hfr_280⟩ := hw
                          have h_281 := (hfr_280 _ (gm_ne m2 eh (fun h => by cases h)) (by omega) (by omega) (by omega) (by omega) (by omega) (by omega) (by omega) (by omega) (by omega) (by omega)).trans m2
                          have h_282 := (hfr_280 _ (gm_ne m3 eh (fun h => by cases h)) (by omega) (by omega) (by omega) (by omega) (by omega) (by omega) (by omega) (by omega) (by omega) (by omega)).trans m3
                          have h_283 := (hfr_280 _ (gm_ne m4 eh (fun h => by cases h)) (by omega) (by omega) (by omega) (by omega) (by omega) (by omega) (by omega) (by omega) (by omega) (by omega)).trans m4
                          have h_284 := (hfr_280 _ (gm_ne m5 eh (fun h => by cases h)) (gm_ne m5 m14 (fun h => by simp at h)) (gm_ne m5 m15 (fun h => by simp at h)) (gm_ne m5 m16 (fun h => by simp at h)) (gm_ne m5 m17 (fun h => by simp at h)) (gm_ne m5 m18 (fun h => by simp at h)) (gm_ne m5 m19 (fun h => by simp at h)) (gm_ne m5 m20 (fun h => by simp at h)) (gm_ne m5 m21 (fun h => by simp at h)) (gm_ne m5 m22 (fun h => by simp at h)) (gm_ne m5 m23 (fun h => by simp at h))).trans m5
                          have h_285 := (hfr_280 _ (gm_ne m6 eh (fun h => by cases h)) (gm_ne m6 m14 (fun h => by simp at h)) (gm_ne m6 m15 (fun h => by simp at h)) (gm_ne m6 m16 (fun h => by simp at h)) (gm_ne m6 m17 (fun h => by simp at h)) (gm_ne m6 m18 (fun h => by simp at h)) (gm_ne m6 m19 (fun h => by simp at h)) (gm_ne m6 m20 (fun h => by simp at h)) (gm_ne m6 m21 (fun h => by simp at h)) (gm_ne m6 m22 (fun h => by simp at h)) (gm_ne m6 m23 (fun h => by simp at h))).trans m6
                          have h_286 := (hfr_280 _ (gm_ne m26 eh (fun h => by cases h)) (gm_ne m26 m14 (fun h => by simp at h)) (gm_ne m26 m15 (fun h => by simp at h)) (gm_ne m26 m16 (fun h => by simp at h)) (gm_ne m26 m17 (fun h => by simp at h)) (gm_ne m26 m18 (fun h => by simp at h)) (gm_ne m26 m19 (fun h => by simp at h)) (gm_ne m26 m20 (fun h => by simp at h)) (gm_ne m26 m21 (fun h => by simp at h)) (gm_ne m26 m22 (fun h => by simp at h)) (gm_ne m26 m23 (fun h => by simp at h))).trans m26
                          have h_287 := (hfr_280 _ (gm_ne m27 eh (fun h => by cases h)) (gm_ne m27 m14 (fun h => by simp at h)) (gm_ne m27 m15 (fun h => by simp at h)) (gm_ne m27 m16 (fun h => by simp at h)) (gm_ne m27 m17 (fun h => by simp at h)) (gm_ne m27 m18 (fun h => by simp at h)) (gm_ne m27 m19 (fun h => by simp at h)) (gm_ne m27 m20 (fun h => by simp at h)) (gm_ne m27 m21 (fun h => by simp at h)) (gm_ne m27 m22 (fun h => by simp at h)) (gm_ne m27 m23 (fun h => by simp at h))).trans m27
                          have h_288 := (hfr_280 _ (gm_ne m10 eh (fun h => by cases h)) (gm_ne m10 m14 (fun h => by simp at h)) (gm_ne m10 m15 (fun h => by simp at h)) (gm_ne m10 m16 (fun h => by simp at h)) (gm_ne m10 m17 (fun h => by simp at h)) (gm_ne m10 m18 (fun h => by simp at h)) (gm_ne m10 m19 (fun h => by simp at h)) (gm_ne m10 m20 (fun h => by simp at h)) (gm_ne m10 m21 (fun h => by simp at h)) (gm_ne m10 m22 (fun h => by simp at h)) (gm_ne m10 m23 (fun h => by simp at h))).trans m10
                          have h_289 := (hfr_280 _ (gm_ne m11 eh (fun h => by cases h)) (gm_ne m11 m14 (fun h => by simp at h)) (gm_ne m11 m15 (fun h => by simp at h)) (gm_ne m11 m16 (fun h => by simp at h)) (gm_ne m11 m17 (fun h => by simp at h)) (gm_ne m11 m18 (fun h => by simp at h)) (gm_ne m11 m19 (fun h => by simp at h)) (gm_ne m11 m20 (fun h => by simp at h)) (gm_ne m11 m21 (fun h => by simp at h)) (gm_ne m11 m22 (fun h => by simp at h)) (gm_ne m11 m23 (fun h => by simp at h))).trans m11
                          have h_290 := (hfr_280 _ (gm_ne m12 eh (fun h => by cases h)) (gm_ne m12 m14 (fun h => by simp at h)) (gm_ne m12 m15 (fun h => by simp at h)) (gm_ne m12 m16 (fun h => by simp at h)) (gm_ne m12 m17 (fun h => by simp at h)) (gm_ne m12 m18 (fun h => by simp at h)) (gm_ne m12 m19 (fun h => by simp at h)) (gm_ne m12 m20 (fun h => by simp at h)) (gm_ne m12 m21 (fun h => by simp at h)) (gm_ne m12 m22 (fun h => by simp at h)) (gm_ne m12 m23 (fun h => by simp at h))).trans m12
                          have h_291 := (hfr_280 _ (gm_ne m13 eh (fun h => by cases h)) (gm_ne m13 m14 (fun h => by simp at h)) (gm_ne m13 m15 (fun h => by simp at h)) (gm_ne m13 m16 (fun h => by simp at h)) (gm_ne m13 m17 (fun h => by simp at h)) (gm_ne m13 m18 (fun h => by simp at h)) (gm_ne m13 m19 (fun h => by simp at h)) (gm_ne m13 m20 (fun h => by simp at h)) (gm_ne m13 m21 (fun h => by simp at h)) (gm_ne m13 m22 (fun h => by simp at h)) (gm_ne m13 m23 (fun h => by simp at h))).trans m13
                          refine W.eq (g2 := F0 m 317 ls []) rfl ?_
                          refine lv_aload_n hx hb d_Mo_outward_317 rfl (lv_at hl 3 rfl) ?_
                          refine lv_iconst (v := nI 0) hx hb d_Mo_outward_318 (by decide) ?_
                          refine lv_sipush (v := nI 200) hx hb d_Mo_outward_319 (by decide) ?_
                          refine lv_iload hx hb d_Mo_outward_322 (lv_at hl 1 rfl) ?_
                          refine lv_aload_n hx hb d_Mo_outward_324 rfl (lv_at hl 3 rfl) ?_
                          refine gm_get (C := R_Mo) (T := F_Mo) (n := 44) hx hb htl i_Mo hown hK hP h_269 rfl 33 (by decide) (htl _ k_776) (fun _ h => h) rfl d_Mo_outward_325 ?_
                          refine lv_iconst (v := nI 2) hx hb d_Mo_outward_328 (by decide) ?_
                          refine gz_iald hx hb hK hP 0 h_286 rfl (by omega) (by omega) d_Mo_outward_329 ?_
                          rw [show hd 2 = ta / 256 from hhd.2.2.1]
                          refine lv_aload_n hx hb d_Mo_outward_330 rfl (lv_at hl 3 rfl) ?_
                          refine gm_get (C := R_Mo) (T := F_Mo) (n := 44) hx hb htl i_Mo hown hK hP h_269 rfl 33 (by decide) (htl _ k_776) (fun _ h => h) rfl d_Mo_outward_331 ?_
                          refine lv_iconst (v := nI 3) hx hb d_Mo_outward_334 (by decide) ?_
                          refine gz_iald hx hb hK hP 0 h_286 rfl (by omega) (by omega) d_Mo_outward_335 ?_
                          rw [show hd 3 = ta % 256 from hhd.2.2.2]
                          refine gc_V (q := (R_Mo, F_Mo, 44)) (n := 5) [.int (nI 0), .int (nI 200), .int (nI vv_130), .int (nI (ta / 256)), .int (nI (ta % 256))] [] hx hb hml hown hts hK hN hX hP hS (c_Mo_emit (nI 0) h_269 h_287) rfl h_269 k_975 k_977 ks_Mo_emit k_10 k_978 (by decide +kernel) ⟨by decide, by decide⟩ rfl hl.1 rfl (Nat.le_of_ble_eq_true rfl) d_Mo_outward_336 ⟨by decide, by decide⟩ (fun r N1 M_292 H locs hw hP hS => ?_)
                          obtain ⟨rfl, hw⟩ := hw
                          obtain ⟨rfl, rfl⟩ := hw
                          have h_293 := gm_pass (k := (h + 27)) (y := .inl (ca 0, 4, .inl (iN (eUp em 200 vv_130 (ta / 256) (ta % 256))))) h_281 (gm_ne h_281 h_287 (fun h => by simp at h))
                          have h_294 := gm_pass (k := (h + 27)) (y := .inl (ca 0, 4, .inl (iN (eUp em 200 vv_130 (ta / 256) (ta % 256))))) h_282 (gm_ne h_282 h_287 (fun h => by simp at h))
                          have h_295 := gm_pass (k := (h + 27)) (y := .inl (ca 0, 4, .inl (iN (eUp em 200 vv_130 (ta / 256) (ta % 256))))) h_283 (gm_ne h_283 h_287 (fun h => by simp at h))
                          have h_296 := gm_pass (k := (h + 27)) (y := .inl (ca 0, 4, .inl (iN (eUp em 200 vv_130 (ta / 256) (ta % 256))))) h_284 (gm_ne h_284 h_287 (fun h => by simp at h))
                          have h_297 := gm_pass (k := (h + 27)) (y := .inl (ca 0, 4, .inl (iN (eUp em 200 vv_130 (ta / 256) (ta % 256))))) h_285 (gm_ne h_285 h_287 (fun h => by simp at h))
                          have h_298 := gm_pass (k := (h + 27)) (y := .inl (ca 0, 4, .inl (iN (eUp em 200 vv_130 (ta / 256) (ta % 256))))) h_286 (by omega)
                          have h_299 := gm_pass (k := (h + 27)) (y := .inl (ca 0, 4, .inl (iN (eUp em 200 vv_130 (ta / 256) (ta % 256))))) h_288 (gm_ne h_288 h_287 (fun h => by simp at h))
                          have h_300 := gm_pass (k := (h + 27)) (y := .inl (ca 0, 4, .inl (iN (eUp em 200 vv_130 (ta / 256) (ta % 256))))) h_289 (gm_ne h_289 h_287 (fun h => by simp at h))
                          have h_301 := gm_pass (k := (h + 27)) (y := .inl (ca 0, 4, .inl (iN (eUp em 200 vv_130 (ta / 256) (ta % 256))))) h_290 (gm_ne h_290 h_287 (fun h => by simp at h))
                          have h_302 := gm_pass (k := (h + 27)) (y := .inl (ca 0, 4, .inl (iN (eUp em 200 vv_130 (ta / 256) (ta % 256))))) h_291 (gm_ne h_291 h_287 (fun h => by simp at h))
                          have h_303 := gm_pass (k := (h + 27)) (y := .inl (ca 0, 4, .inl (iN (eUp em 200 vv_130 (ta / 256) (ta % 256))))) h_269 (gm_ne h_269 h_287 (fun h => by cases h))
                          have h_304 := gm_pass (k := (h + 27)) (y := .inl (ca 0, 4, .inl (iN (eUp em 200 vv_130 (ta / 256) (ta % 256))))) h_270 (gm_ne h_270 h_287 (fun h => by simp at h))
                          have h_305 := gm_pass (k := (h + 27)) (y := .inl (ca 0, 4, .inl (iN (eUp em 200 vv_130 (ta / 256) (ta % 256))))) h_271 (gm_ne h_271 h_287 (fun h => by simp at h))
                          have h_306 := gm_pass (k := (h + 27)) (y := .inl (ca 0, 4, .inl (iN (eUp em 200 vv_130 (ta / 256) (ta % 256))))) h_272 (gm_ne h_272 h_287 (fun h => by simp at h))
                          have h_307 := gm_pass (k := (h + 27)) (y := .inl (ca 0, 4, .inl (iN (eUp em 200 vv_130 (ta / 256) (ta % 256))))) h_273 (gm_ne h_273 h_287 (fun h => by simp at h))
                          have h_308 := gm_pass (k := (h + 27)) (y := .inl (ca 0, 4, .inl (iN (eUp em 200 vv_130 (ta / 256) (ta % 256))))) h_274 (gm_ne h_274 h_287 (fun h => by simp at h))
                          have h_309 := gm_pass (k := (h + 27)) (y := .inl (ca 0, 4, .inl (iN (eUp em 200 vv_130 (ta / 256) (ta % 256))))) h_275 (gm_ne h_275 h_287 (fun h => by simp at h))
                          have h_310 := gm_pass (k := (h + 27)) (y := .inl (ca 0, 4, .inl (iN (eUp em 200 vv_130 (ta / 256) (ta % 256))))) h_276 (gm_ne h_276 h_287 (fun h => by simp at h))
                          have h_311 := gm_pass (k := (h + 27)) (y := .inl (ca 0, 4, .inl (iN (eUp em 200 vv_130 (ta / 256) (ta % 256))))) h_277 (gm_ne h_277 h_287 (fun h => by simp at h))
                          have h_312 := gm_pass (k := (h + 27)) (y := .inl (ca 0, 4, .inl (iN (eUp em 200 vv_130 (ta / 256) (ta % 256))))) h_278 (gm_ne h_278 h_287 (fun h => by simp at h))
                          have h_313 := gm_pass (k := (h + 27)) (y := .inl (ca 0, 4, .inl (iN (eUp em 200 vv_130 (ta / 256) (ta % 256))))) h_279 (gm_ne h_279 h_287 (fun h => by simp at h))
                          have h_314 := gm_up_self M_266 (h + 27) (.inl (ca 0, 4, .inl (iN (eUp em 200 vv_130 (ta / 256) (ta % 256)))))
                          have hP : gm_P D cls A N (gm_up (gm_up M_266 (h + 27) (.inl (ca 0, 4, .inl (iN (eUp em 200 vv_130 (ta / 256) (ta % 256)))))) h (moO h (nI le) bp (nI nr) (nI wh) (nI tl) (nI ne) (nI (nf + 1)) (nI na) (nI 1) (nI tm) (nI cn) (nI cs) (nI bd) (nI (lt + 1)) (nI nt) fx fy)) H := hP
                          have h_315 := gm_pass (k := h) (y := moO h (nI le) bp (nI nr) (nI wh) (nI tl) (nI ne) (nI (nf + 1)) (nI na) (nI 1) (nI tm) (nI cn) (nI cs) (nI bd) (nI (lt + 1)) (nI nt) fx fy) h_293 (gm_ne h_293 h_303 (fun h => by cases h))
                          have h_316 := gm_pass (k := h) (y := moO h (nI le) bp (nI nr) (nI wh) (nI tl) (nI ne) (nI (nf + 1)) (nI na) (nI 1) (nI tm) (nI cn) (nI cs) (nI bd) (nI (lt + 1)) (nI nt) fx fy) h_294 (gm_ne h_294 h_303 (fun h => by cases h))
                          have h_317 := gm_pass (k := h) (y := moO h (nI le) bp (nI nr) (nI wh) (nI tl) (nI ne) (nI (nf + 1)) (nI na) (nI 1) (nI tm) (nI cn) (nI cs) (nI bd) (nI (lt + 1)) (nI nt) fx fy) h_295 (gm_ne h_295 h_303 (fun h => by cases h))
                          have h_318 := gm_pass (k := h) (y := moO h (nI le) bp (nI nr) (nI wh) (nI tl) (nI ne) (nI (nf + 1)) (nI na) (nI 1) (nI tm) (nI cn) (nI cs) (nI bd) (nI (lt + 1)) (nI nt) fx fy) h_296 (gm_ne h_296 h_303 (fun h => by cases h))
                          have h_319 := gm_pass (k := h) (y := moO h (nI le) bp (nI nr) (nI wh) (nI tl) (nI ne) (nI (nf + 1)) (nI na) (nI 1) (nI tm) (nI cn) (nI cs) (nI bd) (nI (lt + 1)) (nI nt) fx fy) h_297 (gm_ne h_297 h_303 (fun h => by cases h))
                          have h_320 := gm_pass (k := h) (y := moO h (nI le) bp (nI nr) (nI wh) (nI tl) (nI ne) (nI (nf + 1)) (nI na) (nI 1) (nI tm) (nI cn) (nI cs) (nI bd) (nI (lt + 1)) (nI nt) fx fy) h_298 (gm_ne h_298 h_303 (fun h => by cases h))
                          have h_321 := gm_pass (k := h) (y := moO h (nI le) bp (nI nr) (nI wh) (nI tl) (nI ne) (nI (nf + 1)) (nI na) (nI 1) (nI tm) (nI cn) (nI cs) (nI bd) (nI (lt + 1)) (nI nt) fx fy) h_299 (gm_ne h_299 h_303 (fun h => by cases h))
                          have h_322 := gm_pass (k := h) (y := moO h (nI le) bp (nI nr) (nI wh) (nI tl) (nI ne) (nI (nf + 1)) (nI na) (nI 1) (nI tm) (nI cn) (nI cs) (nI bd) (nI (lt + 1)) (nI nt) fx fy) h_300 (gm_ne h_300 h_303 (fun h => by cases h))
                          have h_323 := gm_pass (k := h) (y := moO h (nI le) bp (nI nr) (nI wh) (nI tl) (nI ne) (nI (nf + 1)) (nI na) (nI 1) (nI tm) (nI cn) (nI cs) (nI bd) (nI (lt + 1)) (nI nt) fx fy) h_301 (gm_ne h_301 h_303 (fun h => by cases h))
                          have h_324 := gm_pass (k := h) (y := moO h (nI le) bp (nI nr) (nI wh) (nI tl) (nI ne) (nI (nf + 1)) (nI na) (nI 1) (nI tm) (nI cn) (nI cs) (nI bd) (nI (lt + 1)) (nI nt) fx fy) h_302 (gm_ne h_302 h_303 (fun h => by cases h))
                          have h_325 := gm_pass (k := h) (y := moO h (nI le) bp (nI nr) (nI wh) (nI tl) (nI ne) (nI (nf + 1)) (nI na) (nI 1) (nI tm) (nI cn) (nI cs) (nI bd) (nI (lt + 1)) (nI nt) fx fy) h_304 (gm_ne h_304 h_303 (fun h => by cases h))
                          have h_326 := gm_pass (k := h) (y := moO h (nI le) bp (nI nr) (nI wh) (nI tl) (nI ne) (nI (nf + 1)) (nI na) (nI 1) (nI tm) (nI cn) (nI cs) (nI bd) (nI (lt + 1)) (nI nt) fx fy) h_305 (gm_ne h_305 h_303 (fun h => by cases h))
                          have h_327 := gm_pass (k := h) (y := moO h (nI le) bp (nI nr) (nI wh) (nI tl) (nI ne) (nI (nf + 1)) (nI na) (nI 1) (nI tm) (nI cn) (nI cs) (nI bd) (nI (lt + 1)) (nI nt) fx fy) h_306 (gm_ne h_306 h_303 (fun h => by cases h))
                          have h_328 := gm_pass (k := h) (y := moO h (nI le) bp (nI nr) (nI wh) (nI tl) (nI ne) (nI (nf + 1)) (nI na) (nI 1) (nI tm) (nI cn) (nI cs) (nI bd) (nI (lt + 1)) (nI nt) fx fy) h_307 (gm_ne h_307 h_303 (fun h => by cases h))
                          have h_329 := gm_pass (k := h) (y := moO h (nI le) bp (nI nr) (nI wh) (nI tl) (nI ne) (nI (nf + 1)) (nI na) (nI 1) (nI tm) (nI cn) (nI cs) (nI bd) (nI (lt + 1)) (nI nt) fx fy) h_308 (gm_ne h_308 h_303 (fun h => by cases h))
                          have h_330 := gm_pass (k := h) (y := moO h (nI le) bp (nI nr) (nI wh) (nI tl) (nI ne) (nI (nf + 1)) (nI na) (nI 1) (nI tm) (nI cn) (nI cs) (nI bd) (nI (lt + 1)) (nI nt) fx fy) h_309 (gm_ne h_309 h_303 (fun h => by cases h))
                          have h_331 := gm_pass (k := h) (y := moO h (nI le) bp (nI nr) (nI wh) (nI tl) (nI ne) (nI (nf + 1)) (nI na) (nI 1) (nI tm) (nI cn) (nI cs) (nI bd) (nI (lt + 1)) (nI nt) fx fy) h_310 (gm_ne h_310 h_303 (fun h => by cases h))
                          have h_332 := gm_pass (k := h) (y := moO h (nI le) bp (nI nr) (nI wh) (nI tl) (nI ne) (nI (nf + 1)) (nI na) (nI 1) (nI tm) (nI cn) (nI cs) (nI bd) (nI (lt + 1)) (nI nt) fx fy) h_311 (gm_ne h_311 h_303 (fun h => by cases h))
                          have h_333 := gm_pass (k := h) (y := moO h (nI le) bp (nI nr) (nI wh) (nI tl) (nI ne) (nI (nf + 1)) (nI na) (nI 1) (nI tm) (nI cn) (nI cs) (nI bd) (nI (lt + 1)) (nI nt) fx fy) h_312 (gm_ne h_312 h_303 (fun h => by cases h))
                          have h_334 := gm_pass (k := h) (y := moO h (nI le) bp (nI nr) (nI wh) (nI tl) (nI ne) (nI (nf + 1)) (nI na) (nI 1) (nI tm) (nI cn) (nI cs) (nI bd) (nI (lt + 1)) (nI nt) fx fy) h_313 (gm_ne h_313 h_303 (fun h => by cases h))
                          have h_335 := gm_pass (k := h) (y := moO h (nI le) bp (nI nr) (nI wh) (nI tl) (nI ne) (nI (nf + 1)) (nI na) (nI 1) (nI tm) (nI cn) (nI cs) (nI bd) (nI (lt + 1)) (nI nt) fx fy) h_314 (gm_ne h_314 h_303 (fun h => by cases h))
                          have h_336 := gm_up_self (gm_up M_266 (h + 27) (.inl (ca 0, 4, .inl (iN (eUp em 200 vv_130 (ta / 256) (ta % 256)))))) h (moO h (nI le) bp (nI nr) (nI wh) (nI tl) (nI ne) (nI (nf + 1)) (nI na) (nI 1) (nI tm) (nI cn) (nI cs) (nI bd) (nI (lt + 1)) (nI nt) fx fy)
                          refine W.eq (g2 := F0 m 339 ls [.int (nI 0)]) rfl ?_
                          rw [← hQ]
                          exact gc_iret hx hb hr hlk hP hS d_Mo_outward_339 ⟨rfl, Or.inr ⟨pr0, f0, (nI 0), _, (nf + 1), (eUp em 200 vv_130 (ta / 256) (ta % 256)), cs, (lt + 1), nt, 1, mq1v_267, fx, fy, ⟨rfl, hpr0⟩, ⟨rfl, hf0⟩, (by unfold outF; rw [if_neg (by omega), c_17]; simp only [hp_137]; rw [if_neg (by omega), if_neg (by omega)]; unfold openO; rw [if_neg (by omega), if_neg (by omega), c_131]; rfl), c_268, (Or.inl ⟨by decide, rfl, rfl, rfl⟩), h_336, h_325, h_326, h_327, h_328, h_329, h_330, h_331, h_332, h_333, h_334, h_335, (fun z q0 q1 q2 q3 q4 q5 q6 q7 q8 q9 q10 q11 => (gm_up_ne _ _ q0).trans ((gm_up_ne _ _ q11).trans ((hfr_280 z q0 q1 q2 q3 q4 q5 q6 q7 q8 q9 q10).trans (rfl)))), rfl⟩⟩
                      · skip
                        refine lv_aload_n hx hb d_Mo_outward_245 rfl (lv_at hl 3 rfl) ?_
                        refine lv_bipush (v := (-6)) hx hb d_Mo_outward_246 (by decide) ?_
                        refine gc_V (q := (R_Mo, F_Mo, 44)) (n := 1) [.int (-6)] [] hx hb hml hown hts hK hN hX hP hS (c_Mo_stop (-6) eh) rfl eh k_959 k_961 ks_Mo_stop k_10 k_962 (by decide +kernel) ⟨by decide, by decide⟩ rfl hl.1 rfl (Nat.le_of_ble_eq_true rfl) d_Mo_outward_248 ⟨by decide, by decide⟩ (fun r N1 M_337 H locs hw hP hS => ?_)
                        obtain ⟨rfl, hw⟩ := hw
                        obtain ⟨rfl, rfl⟩ := hw
                        have hP : gm_P D cls A N (gm_up M h (moO h (nI le) bp (nI nr) (nI wh) (nI tl) (nI ne) (nI nf) (nI na) (nI an) (nI tm) (nI cn) (nI cs) (nI bd) (nI lt) (nI (nt + 1)) fx fy)) H := hP
                        have h_338 := gm_pass (k := h) (y := moO h (nI le) bp (nI nr) (nI wh) (nI tl) (nI ne) (nI nf) (nI na) (nI an) (nI tm) (nI cn) (nI cs) (nI bd) (nI lt) (nI (nt + 1)) fx fy) m2 (gm_ne m2 eh (fun h => by cases h))
                        have h_339 := gm_pass (k := h) (y := moO h (nI le) bp (nI nr) (nI wh) (nI tl) (nI ne) (nI nf) (nI na) (nI an) (nI tm) (nI cn) (nI cs) (nI bd) (nI lt) (nI (nt + 1)) fx fy) m3 (gm_ne m3 eh (fun h => by cases h))
                        have h_340 := gm_pass (k := h) (y := moO h (nI le) bp (nI nr) (nI wh) (nI tl) (nI ne) (nI nf) (nI na) (nI an) (nI tm) (nI cn) (nI cs) (nI bd) (nI lt) (nI (nt + 1)) fx fy) m4 (gm_ne m4 eh (fun h => by cases h))
                        have h_341 := gm_pass (k := h) (y := moO h (nI le) bp (nI nr) (nI wh) (nI tl) (nI ne) (nI nf) (nI na) (nI an) (nI tm) (nI cn) (nI cs) (nI bd) (nI lt) (nI (nt + 1)) fx fy) m5 (gm_ne m5 eh (fun h => by cases h))
                        have h_342 := gm_pass (k := h) (y := moO h (nI le) bp (nI nr) (nI wh) (nI tl) (nI ne) (nI nf) (nI na) (nI an) (nI tm) (nI cn) (nI cs) (nI bd) (nI lt) (nI (nt + 1)) fx fy) m6 (gm_ne m6 eh (fun h => by cases h))
                        have h_343 := gm_pass (k := h) (y := moO h (nI le) bp (nI nr) (nI wh) (nI tl) (nI ne) (nI nf) (nI na) (nI an) (nI tm) (nI cn) (nI cs) (nI bd) (nI lt) (nI (nt + 1)) fx fy) m26 (gm_ne m26 eh (fun h => by cases h))
                        have h_344 := gm_pass (k := h) (y := moO h (nI le) bp (nI nr) (nI wh) (nI tl) (nI ne) (nI nf) (nI na) (nI an) (nI tm) (nI cn) (nI cs) (nI bd) (nI lt) (nI (nt + 1)) fx fy) m27 (gm_ne m27 eh (fun h => by cases h))
                        have h_345 := gm_pass (k := h) (y := moO h (nI le) bp (nI nr) (nI wh) (nI tl) (nI ne) (nI nf) (nI na) (nI an) (nI tm) (nI cn) (nI cs) (nI bd) (nI lt) (nI (nt + 1)) fx fy) m10 (gm_ne m10 eh (fun h => by cases h))
                        have h_346 := gm_pass (k := h) (y := moO h (nI le) bp (nI nr) (nI wh) (nI tl) (nI ne) (nI nf) (nI na) (nI an) (nI tm) (nI cn) (nI cs) (nI bd) (nI lt) (nI (nt + 1)) fx fy) m11 (gm_ne m11 eh (fun h => by cases h))
                        have h_347 := gm_pass (k := h) (y := moO h (nI le) bp (nI nr) (nI wh) (nI tl) (nI ne) (nI nf) (nI na) (nI an) (nI tm) (nI cn) (nI cs) (nI bd) (nI lt) (nI (nt + 1)) fx fy) m12 (gm_ne m12 eh (fun h => by cases h))
                        have h_348 := gm_pass (k := h) (y := moO h (nI le) bp (nI nr) (nI wh) (nI tl) (nI ne) (nI nf) (nI na) (nI an) (nI tm) (nI cn) (nI cs) (nI bd) (nI lt) (nI (nt + 1)) fx fy) m13 (gm_ne m13 eh (fun h => by cases h))
                        have h_349 := gm_pass (k := h) (y := moO h (nI le) bp (nI nr) (nI wh) (nI tl) (nI ne) (nI nf) (nI na) (nI an) (nI tm) (nI cn) (nI cs) (nI bd) (nI lt) (nI (nt + 1)) fx fy) m14 (gm_ne m14 eh (fun h => by cases h))
                        have h_350 := gm_pass (k := h) (y := moO h (nI le) bp (nI nr) (nI wh) (nI tl) (nI ne) (nI nf) (nI na) (nI an) (nI tm) (nI cn) (nI cs) (nI bd) (nI lt) (nI (nt + 1)) fx fy) m15 (gm_ne m15 eh (fun h => by cases h))
                        have h_351 := gm_pass (k := h) (y := moO h (nI le) bp (nI nr) (nI wh) (nI tl) (nI ne) (nI nf) (nI na) (nI an) (nI tm) (nI cn) (nI cs) (nI bd) (nI lt) (nI (nt + 1)) fx fy) m16 (gm_ne m16 eh (fun h => by cases h))
                        have h_352 := gm_pass (k := h) (y := moO h (nI le) bp (nI nr) (nI wh) (nI tl) (nI ne) (nI nf) (nI na) (nI an) (nI tm) (nI cn) (nI cs) (nI bd) (nI lt) (nI (nt + 1)) fx fy) m17 (gm_ne m17 eh (fun h => by cases h))
                        have h_353 := gm_pass (k := h) (y := moO h (nI le) bp (nI nr) (nI wh) (nI tl) (nI ne) (nI nf) (nI na) (nI an) (nI tm) (nI cn) (nI cs) (nI bd) (nI lt) (nI (nt + 1)) fx fy) m18 (gm_ne m18 eh (fun h => by cases h))
                        have h_354 := gm_pass (k := h) (y := moO h (nI le) bp (nI nr) (nI wh) (nI tl) (nI ne) (nI nf) (nI na) (nI an) (nI tm) (nI cn) (nI cs) (nI bd) (nI lt) (nI (nt + 1)) fx fy) m19 (gm_ne m19 eh (fun h => by cases h))
                        have h_355 := gm_pass (k := h) (y := moO h (nI le) bp (nI nr) (nI wh) (nI tl) (nI ne) (nI nf) (nI na) (nI an) (nI tm) (nI cn) (nI cs) (nI bd) (nI lt) (nI (nt + 1)) fx fy) m20 (gm_ne m20 eh (fun h => by cases h))
                        have h_356 := gm_pass (k := h) (y := moO h (nI le) bp (nI nr) (nI wh) (nI tl) (nI ne) (nI nf) (nI na) (nI an) (nI tm) (nI cn) (nI cs) (nI bd) (nI lt) (nI (nt + 1)) fx fy) m21 (gm_ne m21 eh (fun h => by cases h))
                        have h_357 := gm_pass (k := h) (y := moO h (nI le) bp (nI nr) (nI wh) (nI tl) (nI ne) (nI nf) (nI na) (nI an) (nI tm) (nI cn) (nI cs) (nI bd) (nI lt) (nI (nt + 1)) fx fy) m22 (gm_ne m22 eh (fun h => by cases h))
                        have h_358 := gm_pass (k := h) (y := moO h (nI le) bp (nI nr) (nI wh) (nI tl) (nI ne) (nI nf) (nI na) (nI an) (nI tm) (nI cn) (nI cs) (nI bd) (nI lt) (nI (nt + 1)) fx fy) m23 (gm_ne m23 eh (fun h => by cases h))
                        have h_359 := gm_up_self M h (moO h (nI le) bp (nI nr) (nI wh) (nI tl) (nI ne) (nI nf) (nI na) (nI an) (nI tm) (nI cn) (nI cs) (nI bd) (nI lt) (nI (nt + 1)) fx fy)
                        refine W.eq (g2 := F0 m 251 ls [.int (-6)]) rfl ?_
                        rw [← hQ]
                        exact gc_iret hx hb hr hlk hP hS d_Mo_outward_251 ⟨rfl, Or.inr ⟨pr0, f0, (-6), fl, nf, em, cs, lt, (nt + 1), an, mq, fx, fy, ⟨rfl, hpr0⟩, ⟨rfl, hf0⟩, (by unfold outF; rw [if_neg (by omega), c_17]; simp only [hp_137]; rw [if_neg (by omega), if_neg (by omega)]; unfold openO; rw [if_pos (by omega)]), hRF, (Or.inr ⟨by decide, rfl, rfl, rfl⟩), h_359, h_349, h_350, h_351, h_352, h_353, h_354, h_355, h_356, h_357, h_358, h_344, (fun z q0 q1 q2 q3 q4 q5 q6 q7 q8 q9 q10 q11 => (gm_up_ne _ _ q0).trans (rfl)), rfl⟩⟩
                  · skip
                    refine lv_aload_n hx hb d_Mo_outward_190 rfl (lv_at hl 3 rfl) ?_
                    refine gm_get (C := R_Mo) (T := F_Mo) (n := 44) hx hb htl i_Mo hown hK hP eh rfl 38 (by decide) (htl _ k_781) (fun _ h => h) rfl d_Mo_outward_191 ?_
                    refine lv_bipush (v := nI 40) hx hb d_Mo_outward_194 (by decide) ?_
                    refine ln_ne (tgt := 206) hx hb d_Mo_outward_196 (by decide) (by omega) (by omega) (fun c_360 => ?_) (fun c_360 => ?_)
                    · skip
                      refine lv_aload_n hx hb d_Mo_outward_206 rfl (lv_at hl 3 rfl) ?_
                      refine lv_dup hx hb d_Mo_outward_207 rfl ?_
                      refine gm_get (C := R_Mo) (T := F_Mo) (n := 44) hx hb htl i_Mo hown hK hP eh rfl 38 (by decide) (htl _ k_781) (fun _ h => h) rfl d_Mo_outward_208 ?_
                      refine lv_iconst (v := nI 1) hx hb d_Mo_outward_211 (by decide) ?_
                      refine lv_iadd hx hb d_Mo_outward_212 ?_
                      rw [show (nI cs) + (nI 1) = nI (cs + 1) from nI_add _ _]
                      refine gm_put (C := R_Mo) (T := F_Mo) (n := 44) (ty := .int) hx hb htl i_Mo t_Mo tk_Mo n_Mo hown hK hP hS eh rfl 38 (by decide) (htl _ k_781) (fun _ h => h) rfl (tk_Mo 38 (by decide)) rfl rfl (Nat.le_of_ble_eq_true rfl) d_Mo_outward_213 (fun H locs hP hS => ?_)
                      have hP : gm_P D cls A N (gm_up M h (moO h (nI le) bp (nI nr) (nI wh) (nI tl) (nI ne) (nI nf) (nI na) (nI an) (nI tm) (nI cn) (nI (cs + 1)) (nI bd) (nI lt) (nI nt) fx fy)) H := hP
                      have h_361 := gm_pass (k := h) (y := moO h (nI le) bp (nI nr) (nI wh) (nI tl) (nI ne) (nI nf) (nI na) (nI an) (nI tm) (nI cn) (nI (cs + 1)) (nI bd) (nI lt) (nI nt) fx fy) m2 (gm_ne m2 eh (fun h => by cases h))
                      have h_362 := gm_pass (k := h) (y := moO h (nI le) bp (nI nr) (nI wh) (nI tl) (nI ne) (nI nf) (nI na) (nI an) (nI tm) (nI cn) (nI (cs + 1)) (nI bd) (nI lt) (nI nt) fx fy) m3 (gm_ne m3 eh (fun h => by cases h))
                      have h_363 := gm_pass (k := h) (y := moO h (nI le) bp (nI nr) (nI wh) (nI tl) (nI ne) (nI nf) (nI na) (nI an) (nI tm) (nI cn) (nI (cs + 1)) (nI bd) (nI lt) (nI nt) fx fy) m4 (gm_ne m4 eh (fun h => by cases h))
                      have h_364 := gm_pass (k := h) (y := moO h (nI le) bp (nI nr) (nI wh) (nI tl) (nI ne) (nI nf) (nI na) (nI an) (nI tm) (nI cn) (nI (cs + 1)) (nI bd) (nI lt) (nI nt) fx fy) m5 (gm_ne m5 eh (fun h => by cases h))
                      have h_365 := gm_pass (k := h) (y := moO h (nI le) bp (nI nr) (nI wh) (nI tl) (nI ne) (nI nf) (nI na) (nI an) (nI tm) (nI cn) (nI (cs + 1)) (nI bd) (nI lt) (nI nt) fx fy) m6 (gm_ne m6 eh (fun h => by cases h))
                      have h_366 := gm_pass (k := h) (y := moO h (nI le) bp (nI nr) (nI wh) (nI tl) (nI ne) (nI nf) (nI na) (nI an) (nI tm) (nI cn) (nI (cs + 1)) (nI bd) (nI lt) (nI nt) fx fy) m26 (gm_ne m26 eh (fun h => by cases h))
                      have h_367 := gm_pass (k := h) (y := moO h (nI le) bp (nI nr) (nI wh) (nI tl) (nI ne) (nI nf) (nI na) (nI an) (nI tm) (nI cn) (nI (cs + 1)) (nI bd) (nI lt) (nI nt) fx fy) m27 (gm_ne m27 eh (fun h => by cases h))
                      have h_368 := gm_pass (k := h) (y := moO h (nI le) bp (nI nr) (nI wh) (nI tl) (nI ne) (nI nf) (nI na) (nI an) (nI tm) (nI cn) (nI (cs + 1)) (nI bd) (nI lt) (nI nt) fx fy) m10 (gm_ne m10 eh (fun h => by cases h))
                      have h_369 := gm_pass (k := h) (y := moO h (nI le) bp (nI nr) (nI wh) (nI tl) (nI ne) (nI nf) (nI na) (nI an) (nI tm) (nI cn) (nI (cs + 1)) (nI bd) (nI lt) (nI nt) fx fy) m11 (gm_ne m11 eh (fun h => by cases h))
                      have h_370 := gm_pass (k := h) (y := moO h (nI le) bp (nI nr) (nI wh) (nI tl) (nI ne) (nI nf) (nI na) (nI an) (nI tm) (nI cn) (nI (cs + 1)) (nI bd) (nI lt) (nI nt) fx fy) m12 (gm_ne m12 eh (fun h => by cases h))
                      have h_371 := gm_pass (k := h) (y := moO h (nI le) bp (nI nr) (nI wh) (nI tl) (nI ne) (nI nf) (nI na) (nI an) (nI tm) (nI cn) (nI (cs + 1)) (nI bd) (nI lt) (nI nt) fx fy) m13 (gm_ne m13 eh (fun h => by cases h))
                      have h_372 := gm_pass (k := h) (y := moO h (nI le) bp (nI nr) (nI wh) (nI tl) (nI ne) (nI nf) (nI na) (nI an) (nI tm) (nI cn) (nI (cs + 1)) (nI bd) (nI lt) (nI nt) fx fy) m14 (gm_ne m14 eh (fun h => by cases h))
                      have h_373 := gm_pass (k := h) (y := moO h (nI le) bp (nI nr) (nI wh) (nI tl) (nI ne) (nI nf) (nI na) (nI an) (nI tm) (nI cn) (nI (cs + 1)) (nI bd) (nI lt) (nI nt) fx fy) m15 (gm_ne m15 eh (fun h => by cases h))
                      have h_374 := gm_pass (k := h) (y := moO h (nI le) bp (nI nr) (nI wh) (nI tl) (nI ne) (nI nf) (nI na) (nI an) (nI tm) (nI cn) (nI (cs + 1)) (nI bd) (nI lt) (nI nt) fx fy) m16 (gm_ne m16 eh (fun h => by cases h))
                      have h_375 := gm_pass (k := h) (y := moO h (nI le) bp (nI nr) (nI wh) (nI tl) (nI ne) (nI nf) (nI na) (nI an) (nI tm) (nI cn) (nI (cs + 1)) (nI bd) (nI lt) (nI nt) fx fy) m17 (gm_ne m17 eh (fun h => by cases h))
                      have h_376 := gm_pass (k := h) (y := moO h (nI le) bp (nI nr) (nI wh) (nI tl) (nI ne) (nI nf) (nI na) (nI an) (nI tm) (nI cn) (nI (cs + 1)) (nI bd) (nI lt) (nI nt) fx fy) m18 (gm_ne m18 eh (fun h => by cases h))
                      have h_377 := gm_pass (k := h) (y := moO h (nI le) bp (nI nr) (nI wh) (nI tl) (nI ne) (nI nf) (nI na) (nI an) (nI tm) (nI cn) (nI (cs + 1)) (nI bd) (nI lt) (nI nt) fx fy) m19 (gm_ne m19 eh (fun h => by cases h))
                      have h_378 := gm_pass (k := h) (y := moO h (nI le) bp (nI nr) (nI wh) (nI tl) (nI ne) (nI nf) (nI na) (nI an) (nI tm) (nI cn) (nI (cs + 1)) (nI bd) (nI lt) (nI nt) fx fy) m20 (gm_ne m20 eh (fun h => by cases h))
                      have h_379 := gm_pass (k := h) (y := moO h (nI le) bp (nI nr) (nI wh) (nI tl) (nI ne) (nI nf) (nI na) (nI an) (nI tm) (nI cn) (nI (cs + 1)) (nI bd) (nI lt) (nI nt) fx fy) m21 (gm_ne m21 eh (fun h => by cases h))
                      have h_380 := gm_pass (k := h) (y := moO h (nI le) bp (nI nr) (nI wh) (nI tl) (nI ne) (nI nf) (nI na) (nI an) (nI tm) (nI cn) (nI (cs + 1)) (nI bd) (nI lt) (nI nt) fx fy) m22 (gm_ne m22 eh (fun h => by cases h))
                      have h_381 := gm_pass (k := h) (y := moO h (nI le) bp (nI nr) (nI wh) (nI tl) (nI ne) (nI nf) (nI na) (nI an) (nI tm) (nI cn) (nI (cs + 1)) (nI bd) (nI lt) (nI nt) fx fy) m23 (gm_ne m23 eh (fun h => by cases h))
                      have h_382 := gm_up_self M h (moO h (nI le) bp (nI nr) (nI wh) (nI tl) (nI ne) (nI nf) (nI na) (nI an) (nI tm) (nI cn) (nI (cs + 1)) (nI bd) (nI lt) (nI nt) fx fy)
                      refine lv_aload_n hx hb d_Mo_outward_216 rfl (lv_at hl 3 rfl) ?_
                      refine lv_iconst (v := nI 1) hx hb d_Mo_outward_217 (by decide) ?_
                      refine lv_sipush (v := nI 200) hx hb d_Mo_outward_218 (by decide) ?_
                      refine lv_aload_n hx hb d_Mo_outward_221 rfl (lv_at hl 3 rfl) ?_
                      refine gm_get (C := R_Mo) (T := F_Mo) (n := 44) hx hb htl i_Mo hown hK hP h_382 rfl 37 (by decide) (htl _ k_780) (fun _ h => h) rfl d_Mo_outward_222 ?_
                      refine lv_sipush (v := nI 250) hx hb d_Mo_outward_225 (by decide) ?_
                      refine lv_aload_n hx hb d_Mo_outward_228 rfl (lv_at hl 3 rfl) ?_
                      refine gm_get (C := R_Mo) (T := F_Mo) (n := 44) hx hb htl i_Mo hown hK hP h_382 rfl 38 (by decide) (htl _ k_781) (fun _ h => h) rfl d_Mo_outward_229 ?_
                      refine gc_V (q := (R_Mo, F_Mo, 44)) (n := 5) [.int (nI 1), .int (nI 200), .int (nI cn), .int (nI 250), .int (nI (cs + 1))] [] hx hb hml hown hts hK hN hX hP hS (c_Mo_emit (nI 1) h_382 h_367) rfl h_382 k_975 k_977 ks_Mo_emit k_10 k_978 (by decide +kernel) ⟨by decide, by decide⟩ rfl hl.1 rfl (Nat.le_of_ble_eq_true rfl) d_Mo_outward_232 ⟨by decide, by decide⟩ (fun r N1 M_383 H locs hw hP hS => ?_)
                      obtain ⟨rfl, hw⟩ := hw
                      obtain ⟨rfl, rfl⟩ := hw
                      have h_384 := gm_pass (k := (h + 27)) (y := .inl (ca 0, 4, .inl (iN (eUp em 200 cn 250 (cs + 1))))) h_361 (gm_ne h_361 h_367 (fun h => by simp at h))
                      have h_385 := gm_pass (k := (h + 27)) (y := .inl (ca 0, 4, .inl (iN (eUp em 200 cn 250 (cs + 1))))) h_362 (gm_ne h_362 h_367 (fun h => by simp at h))
                      have h_386 := gm_pass (k := (h + 27)) (y := .inl (ca 0, 4, .inl (iN (eUp em 200 cn 250 (cs + 1))))) h_363 (gm_ne h_363 h_367 (fun h => by simp at h))
                      have h_387 := gm_pass (k := (h + 27)) (y := .inl (ca 0, 4, .inl (iN (eUp em 200 cn 250 (cs + 1))))) h_364 (gm_ne h_364 h_367 (fun h => by simp at h))
                      have h_388 := gm_pass (k := (h + 27)) (y := .inl (ca 0, 4, .inl (iN (eUp em 200 cn 250 (cs + 1))))) h_365 (gm_ne h_365 h_367 (fun h => by simp at h))
                      have h_389 := gm_pass (k := (h + 27)) (y := .inl (ca 0, 4, .inl (iN (eUp em 200 cn 250 (cs + 1))))) h_366 (by omega)
                      have h_390 := gm_pass (k := (h + 27)) (y := .inl (ca 0, 4, .inl (iN (eUp em 200 cn 250 (cs + 1))))) h_368 (gm_ne h_368 h_367 (fun h => by simp at h))
                      have h_391 := gm_pass (k := (h + 27)) (y := .inl (ca 0, 4, .inl (iN (eUp em 200 cn 250 (cs + 1))))) h_369 (gm_ne h_369 h_367 (fun h => by simp at h))
                      have h_392 := gm_pass (k := (h + 27)) (y := .inl (ca 0, 4, .inl (iN (eUp em 200 cn 250 (cs + 1))))) h_370 (gm_ne h_370 h_367 (fun h => by simp at h))
                      have h_393 := gm_pass (k := (h + 27)) (y := .inl (ca 0, 4, .inl (iN (eUp em 200 cn 250 (cs + 1))))) h_371 (gm_ne h_371 h_367 (fun h => by simp at h))
                      have h_394 := gm_pass (k := (h + 27)) (y := .inl (ca 0, 4, .inl (iN (eUp em 200 cn 250 (cs + 1))))) h_372 (gm_ne h_372 h_367 (fun h => by simp at h))
                      have h_395 := gm_pass (k := (h + 27)) (y := .inl (ca 0, 4, .inl (iN (eUp em 200 cn 250 (cs + 1))))) h_373 (gm_ne h_373 h_367 (fun h => by simp at h))
                      have h_396 := gm_pass (k := (h + 27)) (y := .inl (ca 0, 4, .inl (iN (eUp em 200 cn 250 (cs + 1))))) h_374 (gm_ne h_374 h_367 (fun h => by simp at h))
                      have h_397 := gm_pass (k := (h + 27)) (y := .inl (ca 0, 4, .inl (iN (eUp em 200 cn 250 (cs + 1))))) h_375 (gm_ne h_375 h_367 (fun h => by simp at h))
                      have h_398 := gm_pass (k := (h + 27)) (y := .inl (ca 0, 4, .inl (iN (eUp em 200 cn 250 (cs + 1))))) h_376 (gm_ne h_376 h_367 (fun h => by simp at h))
                      have h_399 := gm_pass (k := (h + 27)) (y := .inl (ca 0, 4, .inl (iN (eUp em 200 cn 250 (cs + 1))))) h_377 (gm_ne h_377 h_367 (fun h => by simp at h))
                      have h_400 := gm_pass (k := (h + 27)) (y := .inl (ca 0, 4, .inl (iN (eUp em 200 cn 250 (cs + 1))))) h_378 (gm_ne h_378 h_367 (fun h => by simp at h))
                      have h_401 := gm_pass (k := (h + 27)) (y := .inl (ca 0, 4, .inl (iN (eUp em 200 cn 250 (cs + 1))))) h_379 (gm_ne h_379 h_367 (fun h => by simp at h))
                      have h_402 := gm_pass (k := (h + 27)) (y := .inl (ca 0, 4, .inl (iN (eUp em 200 cn 250 (cs + 1))))) h_380 (gm_ne h_380 h_367 (fun h => by simp at h))
                      have h_403 := gm_pass (k := (h + 27)) (y := .inl (ca 0, 4, .inl (iN (eUp em 200 cn 250 (cs + 1))))) h_381 (gm_ne h_381 h_367 (fun h => by simp at h))
                      have h_404 := gm_pass (k := (h + 27)) (y := .inl (ca 0, 4, .inl (iN (eUp em 200 cn 250 (cs + 1))))) h_382 (gm_ne h_382 h_367 (fun h => by cases h))
                      have h_405 := gm_up_self (gm_up M h (moO h (nI le) bp (nI nr) (nI wh) (nI tl) (nI ne) (nI nf) (nI na) (nI an) (nI tm) (nI cn) (nI (cs + 1)) (nI bd) (nI lt) (nI nt) fx fy)) (h + 27) (.inl (ca 0, 4, .inl (iN (eUp em 200 cn 250 (cs + 1)))))
                      have he_406 : gm_up (gm_up (gm_up M h (moO h (nI le) bp (nI nr) (nI wh) (nI tl) (nI ne) (nI nf) (nI na) (nI an) (nI tm) (nI cn) (nI (cs + 1)) (nI bd) (nI lt) (nI nt) fx fy)) (h + 27) (.inl (ca 0, 4, .inl (iN (eUp em 200 cn 250 (cs + 1)))))) h (moO h (nI le) bp (nI nr) (nI wh) (nI tl) (nI ne) (nI nf) (nI na) (nI 1) (nI tm) (nI cn) (nI (cs + 1)) (nI bd) (nI (lt + 1)) (nI nt) fx fy) = gm_up (gm_up M h (moO h (nI le) bp (nI nr) (nI wh) (nI tl) (nI ne) (nI nf) (nI na) (nI 1) (nI tm) (nI cn) (nI (cs + 1)) (nI bd) (nI (lt + 1)) (nI nt) fx fy)) (h + 27) (.inl (ca 0, 4, .inl (iN (eUp em 200 cn 250 (cs + 1))))) := (gm_swap (gm_ne h_405 h_404 (fun h => by cases h))).trans (congrArg (fun Z => gm_up Z (h + 27) (.inl (ca 0, 4, .inl (iN (eUp em 200 cn 250 (cs + 1)))))) (gm_up_up _ _ _ _))
                      have hP := Eq.mp (congrArg (fun Z => gm_P D cls A N (Z) H) he_406) hP
                      have hP : gm_P D cls A N (gm_up (gm_up M h (moO h (nI le) bp (nI nr) (nI wh) (nI tl) (nI ne) (nI nf) (nI na) (nI 1) (nI tm) (nI cn) (nI (cs + 1)) (nI bd) (nI (lt + 1)) (nI nt) fx fy)) (h + 27) (.inl (ca 0, 4, .inl (iN (eUp em 200 cn 250 (cs + 1)))))) H := hP
                      have h_407 := (congrFun he_406 _).symm.trans (gm_pass (k := h) (y := moO h (nI le) bp (nI nr) (nI wh) (nI tl) (nI ne) (nI nf) (nI na) (nI 1) (nI tm) (nI cn) (nI (cs + 1)) (nI bd) (nI (lt + 1)) (nI nt) fx fy) h_384 (gm_ne h_384 h_404 (fun h => by cases h)))
                      have h_408 := (congrFun he_406 _).symm.trans (gm_pass (k := h) (y := moO h (nI le) bp (nI nr) (nI wh) (nI tl) (nI ne) (nI nf) (nI na) (nI 1) (nI tm) (nI cn) (nI (cs + 1)) (nI bd) (nI (lt + 1)) (nI nt) fx fy) h_385 (gm_ne h_385 h_404 (fun h => by cases h)))
                      have h_409 := (congrFun he_406 _).symm.trans (gm_pass (k := h) (y := moO h (nI le) bp (nI nr) (nI wh) (nI tl) (nI ne) (nI nf) (nI na) (nI 1) (nI tm) (nI cn) (nI (cs + 1)) (nI bd) (nI (lt + 1)) (nI nt) fx fy) h_386 (gm_ne h_386 h_404 (fun h => by cases h)))
                      have h_410 := (congrFun he_406 _).symm.trans (gm_pass (k := h) (y := moO h (nI le) bp (nI nr) (nI wh) (nI tl) (nI ne) (nI nf) (nI na) (nI 1) (nI tm) (nI cn) (nI (cs + 1)) (nI bd) (nI (lt + 1)) (nI nt) fx fy) h_387 (gm_ne h_387 h_404 (fun h => by cases h)))
                      have h_411 := (congrFun he_406 _).symm.trans (gm_pass (k := h) (y := moO h (nI le) bp (nI nr) (nI wh) (nI tl) (nI ne) (nI nf) (nI na) (nI 1) (nI tm) (nI cn) (nI (cs + 1)) (nI bd) (nI (lt + 1)) (nI nt) fx fy) h_388 (gm_ne h_388 h_404 (fun h => by cases h)))
                      have h_412 := (congrFun he_406 _).symm.trans (gm_pass (k := h) (y := moO h (nI le) bp (nI nr) (nI wh) (nI tl) (nI ne) (nI nf) (nI na) (nI 1) (nI tm) (nI cn) (nI (cs + 1)) (nI bd) (nI (lt + 1)) (nI nt) fx fy) h_389 (gm_ne h_389 h_404 (fun h => by cases h)))
                      have h_413 := (congrFun he_406 _).symm.trans (gm_pass (k := h) (y := moO h (nI le) bp (nI nr) (nI wh) (nI tl) (nI ne) (nI nf) (nI na) (nI 1) (nI tm) (nI cn) (nI (cs + 1)) (nI bd) (nI (lt + 1)) (nI nt) fx fy) h_390 (gm_ne h_390 h_404 (fun h => by cases h)))
                      have h_414 := (congrFun he_406 _).symm.trans (gm_pass (k := h) (y := moO h (nI le) bp (nI nr) (nI wh) (nI tl) (nI ne) (nI nf) (nI na) (nI 1) (nI tm) (nI cn) (nI (cs + 1)) (nI bd) (nI (lt + 1)) (nI nt) fx fy) h_391 (gm_ne h_391 h_404 (fun h => by cases h)))
                      have h_415 := (congrFun he_406 _).symm.trans (gm_pass (k := h) (y := moO h (nI le) bp (nI nr) (nI wh) (nI tl) (nI ne) (nI nf) (nI na) (nI 1) (nI tm) (nI cn) (nI (cs + 1)) (nI bd) (nI (lt + 1)) (nI nt) fx fy) h_392 (gm_ne h_392 h_404 (fun h => by cases h)))
                      have h_416 := (congrFun he_406 _).symm.trans (gm_pass (k := h) (y := moO h (nI le) bp (nI nr) (nI wh) (nI tl) (nI ne) (nI nf) (nI na) (nI 1) (nI tm) (nI cn) (nI (cs + 1)) (nI bd) (nI (lt + 1)) (nI nt) fx fy) h_393 (gm_ne h_393 h_404 (fun h => by cases h)))
                      have h_417 := (congrFun he_406 _).symm.trans (gm_pass (k := h) (y := moO h (nI le) bp (nI nr) (nI wh) (nI tl) (nI ne) (nI nf) (nI na) (nI 1) (nI tm) (nI cn) (nI (cs + 1)) (nI bd) (nI (lt + 1)) (nI nt) fx fy) h_394 (gm_ne h_394 h_404 (fun h => by cases h)))
                      have h_418 := (congrFun he_406 _).symm.trans (gm_pass (k := h) (y := moO h (nI le) bp (nI nr) (nI wh) (nI tl) (nI ne) (nI nf) (nI na) (nI 1) (nI tm) (nI cn) (nI (cs + 1)) (nI bd) (nI (lt + 1)) (nI nt) fx fy) h_395 (gm_ne h_395 h_404 (fun h => by cases h)))
                      have h_419 := (congrFun he_406 _).symm.trans (gm_pass (k := h) (y := moO h (nI le) bp (nI nr) (nI wh) (nI tl) (nI ne) (nI nf) (nI na) (nI 1) (nI tm) (nI cn) (nI (cs + 1)) (nI bd) (nI (lt + 1)) (nI nt) fx fy) h_396 (gm_ne h_396 h_404 (fun h => by cases h)))
                      have h_420 := (congrFun he_406 _).symm.trans (gm_pass (k := h) (y := moO h (nI le) bp (nI nr) (nI wh) (nI tl) (nI ne) (nI nf) (nI na) (nI 1) (nI tm) (nI cn) (nI (cs + 1)) (nI bd) (nI (lt + 1)) (nI nt) fx fy) h_397 (gm_ne h_397 h_404 (fun h => by cases h)))
                      have h_421 := (congrFun he_406 _).symm.trans (gm_pass (k := h) (y := moO h (nI le) bp (nI nr) (nI wh) (nI tl) (nI ne) (nI nf) (nI na) (nI 1) (nI tm) (nI cn) (nI (cs + 1)) (nI bd) (nI (lt + 1)) (nI nt) fx fy) h_398 (gm_ne h_398 h_404 (fun h => by cases h)))
                      have h_422 := (congrFun he_406 _).symm.trans (gm_pass (k := h) (y := moO h (nI le) bp (nI nr) (nI wh) (nI tl) (nI ne) (nI nf) (nI na) (nI 1) (nI tm) (nI cn) (nI (cs + 1)) (nI bd) (nI (lt + 1)) (nI nt) fx fy) h_399 (gm_ne h_399 h_404 (fun h => by cases h)))
                      have h_423 := (congrFun he_406 _).symm.trans (gm_pass (k := h) (y := moO h (nI le) bp (nI nr) (nI wh) (nI tl) (nI ne) (nI nf) (nI na) (nI 1) (nI tm) (nI cn) (nI (cs + 1)) (nI bd) (nI (lt + 1)) (nI nt) fx fy) h_400 (gm_ne h_400 h_404 (fun h => by cases h)))
                      have h_424 := (congrFun he_406 _).symm.trans (gm_pass (k := h) (y := moO h (nI le) bp (nI nr) (nI wh) (nI tl) (nI ne) (nI nf) (nI na) (nI 1) (nI tm) (nI cn) (nI (cs + 1)) (nI bd) (nI (lt + 1)) (nI nt) fx fy) h_401 (gm_ne h_401 h_404 (fun h => by cases h)))
                      have h_425 := (congrFun he_406 _).symm.trans (gm_pass (k := h) (y := moO h (nI le) bp (nI nr) (nI wh) (nI tl) (nI ne) (nI nf) (nI na) (nI 1) (nI tm) (nI cn) (nI (cs + 1)) (nI bd) (nI (lt + 1)) (nI nt) fx fy) h_402 (gm_ne h_402 h_404 (fun h => by cases h)))
                      have h_426 := (congrFun he_406 _).symm.trans (gm_pass (k := h) (y := moO h (nI le) bp (nI nr) (nI wh) (nI tl) (nI ne) (nI nf) (nI na) (nI 1) (nI tm) (nI cn) (nI (cs + 1)) (nI bd) (nI (lt + 1)) (nI nt) fx fy) h_403 (gm_ne h_403 h_404 (fun h => by cases h)))
                      have h_427 := (congrFun he_406 _).symm.trans (gm_pass (k := h) (y := moO h (nI le) bp (nI nr) (nI wh) (nI tl) (nI ne) (nI nf) (nI na) (nI 1) (nI tm) (nI cn) (nI (cs + 1)) (nI bd) (nI (lt + 1)) (nI nt) fx fy) h_405 (gm_ne h_405 h_404 (fun h => by cases h)))
                      have h_428 := (congrFun he_406 _).symm.trans (gm_up_self (gm_up (gm_up M h (moO h (nI le) bp (nI nr) (nI wh) (nI tl) (nI ne) (nI nf) (nI na) (nI an) (nI tm) (nI cn) (nI (cs + 1)) (nI bd) (nI lt) (nI nt) fx fy)) (h + 27) (.inl (ca 0, 4, .inl (iN (eUp em 200 cn 250 (cs + 1)))))) h (moO h (nI le) bp (nI nr) (nI wh) (nI tl) (nI ne) (nI nf) (nI na) (nI 1) (nI tm) (nI cn) (nI (cs + 1)) (nI bd) (nI (lt + 1)) (nI nt) fx fy))
                      refine W.eq (g2 := F0 m 235 ls [.int (nI 1)]) rfl ?_
                      rw [← hQ]
                      exact gc_iret hx hb hr hlk hP hS d_Mo_outward_235 ⟨rfl, Or.inr ⟨pr0, f0, (nI 1), fl, nf, (eUp em 200 cn 250 (cs + 1)), (cs + 1), (lt + 1), nt, 1, mq, fx, fy, ⟨rfl, hpr0⟩, ⟨rfl, hf0⟩, (by unfold outF; rw [if_neg (by omega), c_17]; simp only [hp_137]; rw [if_neg (by omega), if_pos (by omega), if_neg (by omega)]), hRF, (Or.inl ⟨by decide, rfl, rfl, rfl⟩), h_428, h_417, h_418, h_419, h_420, h_421, h_422, h_423, h_424, h_425, h_426, h_427, (fun z q0 q1 q2 q3 q4 q5 q6 q7 q8 q9 q10 q11 => (gm_up_ne _ _ q11).trans ((gm_up_ne _ _ q0).trans (rfl))), rfl⟩⟩
                    · skip
                      refine lv_aload_n hx hb d_Mo_outward_199 rfl (lv_at hl 3 rfl) ?_
                      refine lv_bipush (v := (-11)) hx hb d_Mo_outward_200 (by decide) ?_
                      refine gc_V (q := (R_Mo, F_Mo, 44)) (n := 1) [.int (-11)] [] hx hb hml hown hts hK hN hX hP hS (c_Mo_stop (-11) eh) rfl eh k_959 k_961 ks_Mo_stop k_10 k_962 (by decide +kernel) ⟨by decide, by decide⟩ rfl hl.1 rfl (Nat.le_of_ble_eq_true rfl) d_Mo_outward_202 ⟨by decide, by decide⟩ (fun r N1 M_429 H locs hw hP hS => ?_)
                      obtain ⟨rfl, hw⟩ := hw
                      obtain ⟨rfl, rfl⟩ := hw
                      have hP : gm_P D cls A N (gm_up M h (moO h (nI le) bp (nI nr) (nI wh) (nI tl) (nI ne) (nI nf) (nI na) (nI an) (nI tm) (nI cn) (nI cs) (nI bd) (nI lt) (nI (nt + 1)) fx fy)) H := hP
                      have h_430 := gm_pass (k := h) (y := moO h (nI le) bp (nI nr) (nI wh) (nI tl) (nI ne) (nI nf) (nI na) (nI an) (nI tm) (nI cn) (nI cs) (nI bd) (nI lt) (nI (nt + 1)) fx fy) m2 (gm_ne m2 eh (fun h => by cases h))
                      have h_431 := gm_pass (k := h) (y := moO h (nI le) bp (nI nr) (nI wh) (nI tl) (nI ne) (nI nf) (nI na) (nI an) (nI tm) (nI cn) (nI cs) (nI bd) (nI lt) (nI (nt + 1)) fx fy) m3 (gm_ne m3 eh (fun h => by cases h))
                      have h_432 := gm_pass (k := h) (y := moO h (nI le) bp (nI nr) (nI wh) (nI tl) (nI ne) (nI nf) (nI na) (nI an) (nI tm) (nI cn) (nI cs) (nI bd) (nI lt) (nI (nt + 1)) fx fy) m4 (gm_ne m4 eh (fun h => by cases h))
                      have h_433 := gm_pass (k := h) (y := moO h (nI le) bp (nI nr) (nI wh) (nI tl) (nI ne) (nI nf) (nI na) (nI an) (nI tm) (nI cn) (nI cs) (nI bd) (nI lt) (nI (nt + 1)) fx fy) m5 (gm_ne m5 eh (fun h => by cases h))
                      have h_434 := gm_pass (k := h) (y := moO h (nI le) bp (nI nr) (nI wh) (nI tl) (nI ne) (nI nf) (nI na) (nI an) (nI tm) (nI cn) (nI cs) (nI bd) (nI lt) (nI (nt + 1)) fx fy) m6 (gm_ne m6 eh (fun h => by cases h))
                      have h_435 := gm_pass (k := h) (y := moO h (nI le) bp (nI nr) (nI wh) (nI tl) (nI ne) (nI nf) (nI na) (nI an) (nI tm) (nI cn) (nI cs) (nI bd) (nI lt) (nI (nt + 1)) fx fy) m26 (gm_ne m26 eh (fun h => by cases h))
                      have h_436 := gm_pass (k := h) (y := moO h (nI le) bp (nI nr) (nI wh) (nI tl) (nI ne) (nI nf) (nI na) (nI an) (nI tm) (nI cn) (nI cs) (nI bd) (nI lt) (nI (nt + 1)) fx fy) m27 (gm_ne m27 eh (fun h => by cases h))
                      have h_437 := gm_pass (k := h) (y := moO h (nI le) bp (nI nr) (nI wh) (nI tl) (nI ne) (nI nf) (nI na) (nI an) (nI tm) (nI cn) (nI cs) (nI bd) (nI lt) (nI (nt + 1)) fx fy) m10 (gm_ne m10 eh (fun h => by cases h))
                      have h_438 := gm_pass (k := h) (y := moO h (nI le) bp (nI nr) (nI wh) (nI tl) (nI ne) (nI nf) (nI na) (nI an) (nI tm) (nI cn) (nI cs) (nI bd) (nI lt) (nI (nt + 1)) fx fy) m11 (gm_ne m11 eh (fun h => by cases h))
                      have h_439 := gm_pass (k := h) (y := moO h (nI le) bp (nI nr) (nI wh) (nI tl) (nI ne) (nI nf) (nI na) (nI an) (nI tm) (nI cn) (nI cs) (nI bd) (nI lt) (nI (nt + 1)) fx fy) m12 (gm_ne m12 eh (fun h => by cases h))
                      have h_440 := gm_pass (k := h) (y := moO h (nI le) bp (nI nr) (nI wh) (nI tl) (nI ne) (nI nf) (nI na) (nI an) (nI tm) (nI cn) (nI cs) (nI bd) (nI lt) (nI (nt + 1)) fx fy) m13 (gm_ne m13 eh (fun h => by cases h))
                      have h_441 := gm_pass (k := h) (y := moO h (nI le) bp (nI nr) (nI wh) (nI tl) (nI ne) (nI nf) (nI na) (nI an) (nI tm) (nI cn) (nI cs) (nI bd) (nI lt) (nI (nt + 1)) fx fy) m14 (gm_ne m14 eh (fun h => by cases h))
                      have h_442 := gm_pass (k := h) (y := moO h (nI le) bp (nI nr) (nI wh) (nI tl) (nI ne) (nI nf) (nI na) (nI an) (nI tm) (nI cn) (nI cs) (nI bd) (nI lt) (nI (nt + 1)) fx fy) m15 (gm_ne m15 eh (fun h => by cases h))
                      have h_443 := gm_pass (k := h) (y := moO h (nI le) bp (nI nr) (nI wh) (nI tl) (nI ne) (nI nf) (nI na) (nI an) (nI tm) (nI cn) (nI cs) (nI bd) (nI lt) (nI (nt + 1)) fx fy) m16 (gm_ne m16 eh (fun h => by cases h))
                      have h_444 := gm_pass (k := h) (y := moO h (nI le) bp (nI nr) (nI wh) (nI tl) (nI ne) (nI nf) (nI na) (nI an) (nI tm) (nI cn) (nI cs) (nI bd) (nI lt) (nI (nt + 1)) fx fy) m17 (gm_ne m17 eh (fun h => by cases h))
                      have h_445 := gm_pass (k := h) (y := moO h (nI le) bp (nI nr) (nI wh) (nI tl) (nI ne) (nI nf) (nI na) (nI an) (nI tm) (nI cn) (nI cs) (nI bd) (nI lt) (nI (nt + 1)) fx fy) m18 (gm_ne m18 eh (fun h => by cases h))
                      have h_446 := gm_pass (k := h) (y := moO h (nI le) bp (nI nr) (nI wh) (nI tl) (nI ne) (nI nf) (nI na) (nI an) (nI tm) (nI cn) (nI cs) (nI bd) (nI lt) (nI (nt + 1)) fx fy) m19 (gm_ne m19 eh (fun h => by cases h))
                      have h_447 := gm_pass (k := h) (y := moO h (nI le) bp (nI nr) (nI wh) (nI tl) (nI ne) (nI nf) (nI na) (nI an) (nI tm) (nI cn) (nI cs) (nI bd) (nI lt) (nI (nt + 1)) fx fy) m20 (gm_ne m20 eh (fun h => by cases h))
                      have h_448 := gm_pass (k := h) (y := moO h (nI le) bp (nI nr) (nI wh) (nI tl) (nI ne) (nI nf) (nI na) (nI an) (nI tm) (nI cn) (nI cs) (nI bd) (nI lt) (nI (nt + 1)) fx fy) m21 (gm_ne m21 eh (fun h => by cases h))
                      have h_449 := gm_pass (k := h) (y := moO h (nI le) bp (nI nr) (nI wh) (nI tl) (nI ne) (nI nf) (nI na) (nI an) (nI tm) (nI cn) (nI cs) (nI bd) (nI lt) (nI (nt + 1)) fx fy) m22 (gm_ne m22 eh (fun h => by cases h))
                      have h_450 := gm_pass (k := h) (y := moO h (nI le) bp (nI nr) (nI wh) (nI tl) (nI ne) (nI nf) (nI na) (nI an) (nI tm) (nI cn) (nI cs) (nI bd) (nI lt) (nI (nt + 1)) fx fy) m23 (gm_ne m23 eh (fun h => by cases h))
                      have h_451 := gm_up_self M h (moO h (nI le) bp (nI nr) (nI wh) (nI tl) (nI ne) (nI nf) (nI na) (nI an) (nI tm) (nI cn) (nI cs) (nI bd) (nI lt) (nI (nt + 1)) fx fy)
                      refine W.eq (g2 := F0 m 205 ls [.int (-11)]) rfl ?_
                      rw [← hQ]
                      exact gc_iret hx hb hr hlk hP hS d_Mo_outward_205 ⟨rfl, Or.inr ⟨pr0, f0, (-11), fl, nf, em, cs, lt, (nt + 1), an, mq, fx, fy, ⟨rfl, hpr0⟩, ⟨rfl, hf0⟩, (by unfold outF; rw [if_neg (by omega), c_17]; simp only [hp_137]; rw [if_neg (by omega), if_pos (by omega), if_pos (by omega)]), hRF, (Or.inr ⟨by decide, rfl, rfl, rfl⟩), h_451, h_441, h_442, h_443, h_444, h_445, h_446, h_447, h_448, h_449, h_450, h_436, (fun z q0 q1 q2 q3 q4 q5 q6 q7 q8 q9 q10 q11 => (gm_up_ne _ _ q0).trans (rfl)), rfl⟩⟩
                · skip
                  refine lv_aload_n hx hb d_Mo_outward_177 rfl (lv_at hl 3 rfl) ?_
                  refine lv_bipush (v := (-4)) hx hb d_Mo_outward_178 (by decide) ?_
                  refine gc_V (q := (R_Mo, F_Mo, 44)) (n := 1) [.int (-4)] [] hx hb hml hown hts hK hN hX hP hS (c_Mo_stop (-4) eh) rfl eh k_959 k_961 ks_Mo_stop k_10 k_962 (by decide +kernel) ⟨by decide, by decide⟩ rfl hl.1 rfl (Nat.le_of_ble_eq_true rfl) d_Mo_outward_180 ⟨by decide, by decide⟩ (fun r N1 M_452 H locs hw hP hS => ?_)
                  obtain ⟨rfl, hw⟩ := hw
                  obtain ⟨rfl, rfl⟩ := hw
                  have hP : gm_P D cls A N (gm_up M h (moO h (nI le) bp (nI nr) (nI wh) (nI tl) (nI ne) (nI nf) (nI na) (nI an) (nI tm) (nI cn) (nI cs) (nI bd) (nI lt) (nI (nt + 1)) fx fy)) H := hP
                  have h_453 := gm_pass (k := h) (y := moO h (nI le) bp (nI nr) (nI wh) (nI tl) (nI ne) (nI nf) (nI na) (nI an) (nI tm) (nI cn) (nI cs) (nI bd) (nI lt) (nI (nt + 1)) fx fy) m2 (gm_ne m2 eh (fun h => by cases h))
                  have h_454 := gm_pass (k := h) (y := moO h (nI le) bp (nI nr) (nI wh) (nI tl) (nI ne) (nI nf) (nI na) (nI an) (nI tm) (nI cn) (nI cs) (nI bd) (nI lt) (nI (nt + 1)) fx fy) m3 (gm_ne m3 eh (fun h => by cases h))
                  have h_455 := gm_pass (k := h) (y := moO h (nI le) bp (nI nr) (nI wh) (nI tl) (nI ne) (nI nf) (nI na) (nI an) (nI tm) (nI cn) (nI cs) (nI bd) (nI lt) (nI (nt + 1)) fx fy) m4 (gm_ne m4 eh (fun h => by cases h))
                  have h_456 := gm_pass (k := h) (y := moO h (nI le) bp (nI nr) (nI wh) (nI tl) (nI ne) (nI nf) (nI na) (nI an) (nI tm) (nI cn) (nI cs) (nI bd) (nI lt) (nI (nt + 1)) fx fy) m5 (gm_ne m5 eh (fun h => by cases h))
                  have h_457 := gm_pass (k := h) (y := moO h (nI le) bp (nI nr) (nI wh) (nI tl) (nI ne) (nI nf) (nI na) (nI an) (nI tm) (nI cn) (nI cs) (nI bd) (nI lt) (nI (nt + 1)) fx fy) m6 (gm_ne m6 eh (fun h => by cases h))
                  have h_458 := gm_pass (k := h) (y := moO h (nI le) bp (nI nr) (nI wh) (nI tl) (nI ne) (nI nf) (nI na) (nI an) (nI tm) (nI cn) (nI cs) (nI bd) (nI lt) (nI (nt + 1)) fx fy) m26 (gm_ne m26 eh (fun h => by cases h))
                  have h_459 := gm_pass (k := h) (y := moO h (nI le) bp (nI nr) (nI wh) (nI tl) (nI ne) (nI nf) (nI na) (nI an) (nI tm) (nI cn) (nI cs) (nI bd) (nI lt) (nI (nt + 1)) fx fy) m27 (gm_ne m27 eh (fun h => by cases h))
                  have h_460 := gm_pass (k := h) (y := moO h (nI le) bp (nI nr) (nI wh) (nI tl) (nI ne) (nI nf) (nI na) (nI an) (nI tm) (nI cn) (nI cs) (nI bd) (nI lt) (nI (nt + 1)) fx fy) m10 (gm_ne m10 eh (fun h => by cases h))
                  have h_461 := gm_pass (k := h) (y := moO h (nI le) bp (nI nr) (nI wh) (nI tl) (nI ne) (nI nf) (nI na) (nI an) (nI tm) (nI cn) (nI cs) (nI bd) (nI lt) (nI (nt + 1)) fx fy) m11 (gm_ne m11 eh (fun h => by cases h))
                  have h_462 := gm_pass (k := h) (y := moO h (nI le) bp (nI nr) (nI wh) (nI tl) (nI ne) (nI nf) (nI na) (nI an) (nI tm) (nI cn) (nI cs) (nI bd) (nI lt) (nI (nt + 1)) fx fy) m12 (gm_ne m12 eh (fun h => by cases h))
                  have h_463 := gm_pass (k := h) (y := moO h (nI le) bp (nI nr) (nI wh) (nI tl) (nI ne) (nI nf) (nI na) (nI an) (nI tm) (nI cn) (nI cs) (nI bd) (nI lt) (nI (nt + 1)) fx fy) m13 (gm_ne m13 eh (fun h => by cases h))
                  have h_464 := gm_pass (k := h) (y := moO h (nI le) bp (nI nr) (nI wh) (nI tl) (nI ne) (nI nf) (nI na) (nI an) (nI tm) (nI cn) (nI cs) (nI bd) (nI lt) (nI (nt + 1)) fx fy) m14 (gm_ne m14 eh (fun h => by cases h))
                  have h_465 := gm_pass (k := h) (y := moO h (nI le) bp (nI nr) (nI wh) (nI tl) (nI ne) (nI nf) (nI na) (nI an) (nI tm) (nI cn) (nI cs) (nI bd) (nI lt) (nI (nt + 1)) fx fy) m15 (gm_ne m15 eh (fun h => by cases h))
                  have h_466 := gm_pass (k := h) (y := moO h (nI le) bp (nI nr) (nI wh) (nI tl) (nI ne) (nI nf) (nI na) (nI an) (nI tm) (nI cn) (nI cs) (nI bd) (nI lt) (nI (nt + 1)) fx fy) m16 (gm_ne m16 eh (fun h => by cases h))
                  have h_467 := gm_pass (k := h) (y := moO h (nI le) bp (nI nr) (nI wh) (nI tl) (nI ne) (nI nf) (nI na) (nI an) (nI tm) (nI cn) (nI cs) (nI bd) (nI lt) (nI (nt + 1)) fx fy) m17 (gm_ne m17 eh (fun h => by cases h))
                  have h_468 := gm_pass (k := h) (y := moO h (nI le) bp (nI nr) (nI wh) (nI tl) (nI ne) (nI nf) (nI na) (nI an) (nI tm) (nI cn) (nI cs) (nI bd) (nI lt) (nI (nt + 1)) fx fy) m18 (gm_ne m18 eh (fun h => by cases h))
                  have h_469 := gm_pass (k := h) (y := moO h (nI le) bp (nI nr) (nI wh) (nI tl) (nI ne) (nI nf) (nI na) (nI an) (nI tm) (nI cn) (nI cs) (nI bd) (nI lt) (nI (nt + 1)) fx fy) m19 (gm_ne m19 eh (fun h => by cases h))
                  have h_470 := gm_pass (k := h) (y := moO h (nI le) bp (nI nr) (nI wh) (nI tl) (nI ne) (nI nf) (nI na) (nI an) (nI tm) (nI cn) (nI cs) (nI bd) (nI lt) (nI (nt + 1)) fx fy) m20 (gm_ne m20 eh (fun h => by cases h))
                  have h_471 := gm_pass (k := h) (y := moO h (nI le) bp (nI nr) (nI wh) (nI tl) (nI ne) (nI nf) (nI na) (nI an) (nI tm) (nI cn) (nI cs) (nI bd) (nI lt) (nI (nt + 1)) fx fy) m21 (gm_ne m21 eh (fun h => by cases h))
                  have h_472 := gm_pass (k := h) (y := moO h (nI le) bp (nI nr) (nI wh) (nI tl) (nI ne) (nI nf) (nI na) (nI an) (nI tm) (nI cn) (nI cs) (nI bd) (nI lt) (nI (nt + 1)) fx fy) m22 (gm_ne m22 eh (fun h => by cases h))
                  have h_473 := gm_pass (k := h) (y := moO h (nI le) bp (nI nr) (nI wh) (nI tl) (nI ne) (nI nf) (nI na) (nI an) (nI tm) (nI cn) (nI cs) (nI bd) (nI lt) (nI (nt + 1)) fx fy) m23 (gm_ne m23 eh (fun h => by cases h))
                  have h_474 := gm_up_self M h (moO h (nI le) bp (nI nr) (nI wh) (nI tl) (nI ne) (nI nf) (nI na) (nI an) (nI tm) (nI cn) (nI cs) (nI bd) (nI lt) (nI (nt + 1)) fx fy)
                  refine W.eq (g2 := F0 m 183 ls [.int (-4)]) rfl ?_
                  rw [← hQ]
                  exact gc_iret hx hb hr hlk hP hS d_Mo_outward_183 ⟨rfl, Or.inr ⟨pr0, f0, (-4), fl, nf, em, cs, lt, (nt + 1), an, mq, fx, fy, ⟨rfl, hpr0⟩, ⟨rfl, hf0⟩, (by unfold outF; rw [if_neg (by omega), c_17]; simp only [hp_137]; rw [if_pos (by omega)]), hRF, (Or.inr ⟨by decide, rfl, rfl, rfl⟩), h_474, h_464, h_465, h_466, h_467, h_468, h_469, h_470, h_471, h_472, h_473, h_459, (fun z q0 q1 q2 q3 q4 q5 q6 q7 q8 q9 q10 q11 => (gm_up_ne _ _ q0).trans (rfl)), rfl⟩⟩
              · skip
                refine W.eq (g2 := F0 m 97 ls [.int (-1)]) rfl ?_
                refine lv_istore (lv' := [(4, .int (-1)), (3, .int (-1)), (0, .ref h), (1, .int (nI pr0)), (2, .int (nI f0))]) hx hb d_Mo_outward_97 hl (by decide) rfl (fun ls hl => ?_)
                refine lv_iload_n hx hb d_Mo_outward_99 rfl (lv_at hl 1 rfl) ?_
                refine lv_if_lt (tgt := 145) hx hb d_Mo_outward_100 (by decide) (fun _ => ?_) (fun q => absurd q (by decide))
                refine lv_aload_n hx hb d_Mo_outward_145 rfl (lv_at hl 2 rfl) ?_
                refine lv_iconst (v := nI 1) hx hb d_Mo_outward_146 (by decide) ?_
                refine lv_iload_n hx hb d_Mo_outward_147 rfl (lv_at hl 3 rfl) ?_
                refine lv_aload_n hx hb d_Mo_outward_148 rfl (lv_at hl 2 rfl) ?_
                refine gm_get (C := R_Mo) (T := F_Mo) (n := 44) hx hb htl i_Mo hown hK hP eh rfl 33 (by decide) (htl _ k_776) (fun _ h => h) rfl d_Mo_outward_149 ?_
                refine lv_iconst (v := nI 0) hx hb d_Mo_outward_152 (by decide) ?_
                refine gz_iald hx hb hK hP 0 m26 rfl (by omega) (by omega) d_Mo_outward_153 ?_
                rw [show hd 0 = so / 256 from hhd.1]
                refine lv_aload_n hx hb d_Mo_outward_154 rfl (lv_at hl 2 rfl) ?_
                refine gm_get (C := R_Mo) (T := F_Mo) (n := 44) hx hb htl i_Mo hown hK hP eh rfl 33 (by decide) (htl _ k_776) (fun _ h => h) rfl d_Mo_outward_155 ?_
                refine lv_iconst (v := nI 2) hx hb d_Mo_outward_158 (by decide) ?_
                refine gz_iald hx hb hK hP 0 m26 rfl (by omega) (by omega) d_Mo_outward_159 ?_
                rw [show hd 2 = ta / 256 from hhd.2.2.1]
                refine lv_aload_n hx hb d_Mo_outward_160 rfl (lv_at hl 2 rfl) ?_
                refine gm_get (C := R_Mo) (T := F_Mo) (n := 44) hx hb htl i_Mo hown hK hP eh rfl 33 (by decide) (htl _ k_776) (fun _ h => h) rfl d_Mo_outward_161 ?_
                refine lv_iconst (v := nI 3) hx hb d_Mo_outward_164 (by decide) ?_
                refine gz_iald hx hb hK hP 0 m26 rfl (by omega) (by omega) d_Mo_outward_165 ?_
                rw [show hd 3 = ta % 256 from hhd.2.2.2]
                refine gc_V (q := (R_Mo, F_Mo, 44)) (n := 5) [.int (nI 1), .int (nI pr0), .int (nI (so / 256)), .int (nI (ta / 256)), .int (nI (ta % 256))] [] hx hb hml hown hts hK hN hX hP hS (c_Mo_policy (ru := ru) (lw := lw) (hw := hw) (s0 := so) (t0 := ta) eh m2 m3 m4 m5 m6 hRU hU (by omega) (by omega) (by omega) (by omega) (by omega) (by omega)) rfl eh k_979 k_981 ks_Mo_policy k_10 k_982 (by decide +kernel) ⟨by decide, by decide⟩ rfl hl.1 rfl (Nat.le_of_ble_eq_true rfl) d_Mo_outward_166 ⟨by decide, by decide⟩ (fun r N1 M_475 H locs hw hP hS => ?_)
                obtain ⟨rfl, hw⟩ := hw
                obtain ⟨av_476, c_477, rfl, rfl⟩ := hw
                refine W.eq (g2 := F0 m 169 ls [.int (nI av_476)]) rfl ?_
                have hp_478 := pol_F c_477
                have b_479 := pol_le hU c_477
                refine lv_istore (lv' := [(5, .int (nI av_476)), (4, .int (-1)), (3, .int (-1)), (0, .ref h), (1, .int (nI pr0)), (2, .int (nI f0))]) hx hb d_Mo_outward_169 hl (by decide) rfl (fun ls hl => ?_)
                refine lv_iload hx hb d_Mo_outward_171 (lv_at hl 0 rfl) ?_
                refine lv_iconst (v := nI 1) hx hb d_Mo_outward_173 (by decide) ?_
                refine ln_ne (tgt := 184) hx hb d_Mo_outward_174 (by decide) (by omega) (by omega) (fun c_480 => ?_) (fun c_480 => ?_)
                · skip
                  refine lv_iload hx hb d_Mo_outward_184 (lv_at hl 0 rfl) ?_
                  refine lv_iconst (v := nI 2) hx hb d_Mo_outward_186 (by decide) ?_
                  refine ln_ne (tgt := 236) hx hb d_Mo_outward_187 (by decide) (by omega) (by omega) (fun c_481 => ?_) (fun c_481 => ?_)
                  · skip
                    refine lv_iload_n hx hb d_Mo_outward_236 rfl (lv_at hl 4 rfl) ?_
                    refine lz_ne (tgt := 252) hx hb d_Mo_outward_237 (by decide) (by omega) (fun c_482 => ?_) (fun c_482 => ?_)
                    · skip
                      refine lv_iload hx hb d_Mo_outward_252 (lv_at hl 1 rfl) ?_
                      refine lv_if_ge (tgt := 264) hx hb d_Mo_outward_254 (by decide) (fun q => absurd q (by decide)) (fun _ => ?_)
                      refine lv_aload_n hx hb d_Mo_outward_257 rfl (lv_at hl 3 rfl) ?_
                      refine lv_iload_n hx hb d_Mo_outward_258 rfl (lv_at hl 4 rfl) ?_
                      refine gc_V (q := (R_Mo, F_Mo, 44)) (n := 1) [.int (nI pr0)] [] hx hb hml hown hts hK hN hX hP hS (c_Mo_freePort (pp := pp) (po := po) (pi := pi) (fl := fl) eh m10 m11 m12 m13 m14 m15 m16 m17 m18 m19 m20 m21 m22 m23 hRE (by omega) hpp hpo hpi hRF (by omega) hF (by omega) hpo9) rfl eh k_986 k_988 ks_Mo_freePort k_10 k_989 (by decide +kernel) ⟨by decide, by decide⟩ rfl hl.1 rfl (Nat.le_of_ble_eq_true rfl) d_Mo_outward_259 ⟨by decide, by decide⟩ (fun r N1 M_483 H locs hw hP hS => ?_)
                      obtain ⟨rfl, hw⟩ := hw
                      rcases hw with ⟨vv_484, u1v_485, u2v_486, c_487, c_488, h_489, hfr_490, rfl⟩ | ⟨u1v_491, u2v_492, c_493, h_494, hfr_495, rfl⟩
                      · skip
                        have h_496 := (hfr_490 _ (gm_ne m2 eh (fun h => by cases h))).trans m2
                        have h_497 := (hfr_490 _ (gm_ne m3 eh (fun h => by cases h))).trans m3
                        have h_498 := (hfr_490 _ (gm_ne m4 eh (fun h => by cases h))).trans m4
                        have h_499 := (hfr_490 _ (gm_ne m5 eh (fun h => by cases h))).trans m5
                        have h_500 := (hfr_490 _ (gm_ne m6 eh (fun h => by cases h))).trans m6
                        have h_501 := (hfr_490 _ (gm_ne m26 eh (fun h => by cases h))).trans m26
                        have h_502 := (hfr_490 _ (gm_ne m27 eh (fun h => by cases h))).trans m27
                        have h_503 := (hfr_490 _ (gm_ne m10 eh (fun h => by cases h))).trans m10
                        have h_504 := (hfr_490 _ (gm_ne m11 eh (fun h => by cases h))).trans m11
                        have h_505 := (hfr_490 _ (gm_ne m12 eh (fun h => by cases h))).trans m12
                        have h_506 := (hfr_490 _ (gm_ne m13 eh (fun h => by cases h))).trans m13
                        have h_507 := (hfr_490 _ (gm_ne m14 eh (fun h => by cases h))).trans m14
                        have h_508 := (hfr_490 _ (gm_ne m15 eh (fun h => by cases h))).trans m15
                        have h_509 := (hfr_490 _ (gm_ne m16 eh (fun h => by cases h))).trans m16
                        have h_510 := (hfr_490 _ (gm_ne m17 eh (fun h => by cases h))).trans m17
                        have h_511 := (hfr_490 _ (gm_ne m18 eh (fun h => by cases h))).trans m18
                        have h_512 := (hfr_490 _ (gm_ne m19 eh (fun h => by cases h))).trans m19
                        have h_513 := (hfr_490 _ (gm_ne m20 eh (fun h => by cases h))).trans m20
                        have h_514 := (hfr_490 _ (gm_ne m21 eh (fun h => by cases h))).trans m21
                        have h_515 := (hfr_490 _ (gm_ne m22 eh (fun h => by cases h))).trans m22
                        have h_516 := (hfr_490 _ (gm_ne m23 eh (fun h => by cases h))).trans m23
                        refine W.eq (g2 := F0 m 262 ls [.int (nI vv_484)]) rfl ?_
                        refine lv_istore (lv' := [(4, .int (nI vv_484)), (5, .int (nI av_476)), (3, .int (-1)), (0, .ref h), (1, .int (nI pr0)), (2, .int (nI f0))]) hx hb d_Mo_outward_262 hl (by decide) rfl (fun ls hl => ?_)
                        refine lv_aload_n hx hb d_Mo_outward_264 rfl (lv_at hl 3 rfl) ?_
                        refine gm_get (C := R_Mo) (T := F_Mo) (n := 44) hx hb htl i_Mo hown hK hP h_489 rfl 29 (by decide) (htl _ k_772) (fun _ h => h) rfl d_Mo_outward_265 ?_
                        refine lv_bipush (v := nI 16) hx hb d_Mo_outward_268 (by decide) ?_
                        refine ln_eq (tgt := 278) hx hb d_Mo_outward_270 (by decide) (by omega) (by omega) (fun c_517 => ?_) (fun c_517 => ?_)
                        · skip
                          refine lv_aload_n hx hb d_Mo_outward_278 rfl (lv_at hl 3 rfl) ?_
                          refine lv_bipush (v := (-7)) hx hb d_Mo_outward_279 (by decide) ?_
                          refine gc_V (q := (R_Mo, F_Mo, 44)) (n := 1) [.int (-7)] [] hx hb hml hown hts hK hN hX hP hS (c_Mo_stop (-7) h_489) rfl h_489 k_959 k_961 ks_Mo_stop k_10 k_962 (by decide +kernel) ⟨by decide, by decide⟩ rfl hl.1 rfl (Nat.le_of_ble_eq_true rfl) d_Mo_outward_281 ⟨by decide, by decide⟩ (fun r N1 M_518 H locs hw hP hS => ?_)
                          obtain ⟨rfl, hw⟩ := hw
                          obtain ⟨rfl, rfl⟩ := hw
                          have hP : gm_P D cls A N (gm_up M_483 h (moO h (nI le) bp (nI nr) (nI wh) (nI tl) (nI ne) (nI nf) (nI na) (nI an) (nI tm) (nI cn) (nI cs) (nI bd) (nI lt) (nI (nt + 1)) u1v_485 u2v_486)) H := hP
                          have h_519 := gm_pass (k := h) (y := moO h (nI le) bp (nI nr) (nI wh) (nI tl) (nI ne) (nI nf) (nI na) (nI an) (nI tm) (nI cn) (nI cs) (nI bd) (nI lt) (nI (nt + 1)) u1v_485 u2v_486) h_496 (gm_ne h_496 h_489 (fun h => by cases h))
                          have h_520 := gm_pass (k := h) (y := moO h (nI le) bp (nI nr) (nI wh) (nI tl) (nI ne) (nI nf) (nI na) (nI an) (nI tm) (nI cn) (nI cs) (nI bd) (nI lt) (nI (nt + 1)) u1v_485 u2v_486) h_497 (gm_ne h_497 h_489 (fun h => by cases h))
                          have h_521 := gm_pass (k := h) (y := moO h (nI le) bp (nI nr) (nI wh) (nI tl) (nI ne) (nI nf) (nI na) (nI an) (nI tm) (nI cn) (nI cs) (nI bd) (nI lt) (nI (nt + 1)) u1v_485 u2v_486) h_498 (gm_ne h_498 h_489 (fun h => by cases h))
                          have h_522 := gm_pass (k := h) (y := moO h (nI le) bp (nI nr) (nI wh) (nI tl) (nI ne) (nI nf) (nI na) (nI an) (nI tm) (nI cn) (nI cs) (nI bd) (nI lt) (nI (nt + 1)) u1v_485 u2v_486) h_499 (gm_ne h_499 h_489 (fun h => by cases h))
                          have h_523 := gm_pass (k := h) (y := moO h (nI le) bp (nI nr) (nI wh) (nI tl) (nI ne) (nI nf) (nI na) (nI an) (nI tm) (nI cn) (nI cs) (nI bd) (nI lt) (nI (nt + 1)) u1v_485 u2v_486) h_500 (gm_ne h_500 h_489 (fun h => by cases h))
                          have h_524 := gm_pass (k := h) (y := moO h (nI le) bp (nI nr) (nI wh) (nI tl) (nI ne) (nI nf) (nI na) (nI an) (nI tm) (nI cn) (nI cs) (nI bd) (nI lt) (nI (nt + 1)) u1v_485 u2v_486) h_501 (gm_ne h_501 h_489 (fun h => by cases h))
                          have h_525 := gm_pass (k := h) (y := moO h (nI le) bp (nI nr) (nI wh) (nI tl) (nI ne) (nI nf) (nI na) (nI an) (nI tm) (nI cn) (nI cs) (nI bd) (nI lt) (nI (nt + 1)) u1v_485 u2v_486) h_502 (gm_ne h_502 h_489 (fun h => by cases h))
                          have h_526 := gm_pass (k := h) (y := moO h (nI le) bp (nI nr) (nI wh) (nI tl) (nI ne) (nI nf) (nI na) (nI an) (nI tm) (nI cn) (nI cs) (nI bd) (nI lt) (nI (nt + 1)) u1v_485 u2v_486) h_503 (gm_ne h_503 h_489 (fun h => by cases h))
                          have h_527 := gm_pass (k := h) (y := moO h (nI le) bp (nI nr) (nI wh) (nI tl) (nI ne) (nI nf) (nI na) (nI an) (nI tm) (nI cn) (nI cs) (nI bd) (nI lt) (nI (nt + 1)) u1v_485 u2v_486) h_504 (gm_ne h_504 h_489 (fun h => by cases h))
                          have h_528 := gm_pass (k := h) (y := moO h (nI le) bp (nI nr) (nI wh) (nI tl) (nI ne) (nI nf) (nI na) (nI an) (nI tm) (nI cn) (nI cs) (nI bd) (nI lt) (nI (nt + 1)) u1v_485 u2v_486) h_505 (gm_ne h_505 h_489 (fun h => by cases h))
                          have h_529 := gm_pass (k := h) (y := moO h (nI le) bp (nI nr) (nI wh) (nI tl) (nI ne) (nI nf) (nI na) (nI an) (nI tm) (nI cn) (nI cs) (nI bd) (nI lt) (nI (nt + 1)) u1v_485 u2v_486) h_506 (gm_ne h_506 h_489 (fun h => by cases h))
                          have h_530 := gm_pass (k := h) (y := moO h (nI le) bp (nI nr) (nI wh) (nI tl) (nI ne) (nI nf) (nI na) (nI an) (nI tm) (nI cn) (nI cs) (nI bd) (nI lt) (nI (nt + 1)) u1v_485 u2v_486) h_507 (gm_ne h_507 h_489 (fun h => by cases h))
                          have h_531 := gm_pass (k := h) (y := moO h (nI le) bp (nI nr) (nI wh) (nI tl) (nI ne) (nI nf) (nI na) (nI an) (nI tm) (nI cn) (nI cs) (nI bd) (nI lt) (nI (nt + 1)) u1v_485 u2v_486) h_508 (gm_ne h_508 h_489 (fun h => by cases h))
                          have h_532 := gm_pass (k := h) (y := moO h (nI le) bp (nI nr) (nI wh) (nI tl) (nI ne) (nI nf) (nI na) (nI an) (nI tm) (nI cn) (nI cs) (nI bd) (nI lt) (nI (nt + 1)) u1v_485 u2v_486) h_509 (gm_ne h_509 h_489 (fun h => by cases h))
                          have h_533 := gm_pass (k := h) (y := moO h (nI le) bp (nI nr) (nI wh) (nI tl) (nI ne) (nI nf) (nI na) (nI an) (nI tm) (nI cn) (nI cs) (nI bd) (nI lt) (nI (nt + 1)) u1v_485 u2v_486) h_510 (gm_ne h_510 h_489 (fun h => by cases h))
                          have h_534 := gm_pass (k := h) (y := moO h (nI le) bp (nI nr) (nI wh) (nI tl) (nI ne) (nI nf) (nI na) (nI an) (nI tm) (nI cn) (nI cs) (nI bd) (nI lt) (nI (nt + 1)) u1v_485 u2v_486) h_511 (gm_ne h_511 h_489 (fun h => by cases h))
                          have h_535 := gm_pass (k := h) (y := moO h (nI le) bp (nI nr) (nI wh) (nI tl) (nI ne) (nI nf) (nI na) (nI an) (nI tm) (nI cn) (nI cs) (nI bd) (nI lt) (nI (nt + 1)) u1v_485 u2v_486) h_512 (gm_ne h_512 h_489 (fun h => by cases h))
                          have h_536 := gm_pass (k := h) (y := moO h (nI le) bp (nI nr) (nI wh) (nI tl) (nI ne) (nI nf) (nI na) (nI an) (nI tm) (nI cn) (nI cs) (nI bd) (nI lt) (nI (nt + 1)) u1v_485 u2v_486) h_513 (gm_ne h_513 h_489 (fun h => by cases h))
                          have h_537 := gm_pass (k := h) (y := moO h (nI le) bp (nI nr) (nI wh) (nI tl) (nI ne) (nI nf) (nI na) (nI an) (nI tm) (nI cn) (nI cs) (nI bd) (nI lt) (nI (nt + 1)) u1v_485 u2v_486) h_514 (gm_ne h_514 h_489 (fun h => by cases h))
                          have h_538 := gm_pass (k := h) (y := moO h (nI le) bp (nI nr) (nI wh) (nI tl) (nI ne) (nI nf) (nI na) (nI an) (nI tm) (nI cn) (nI cs) (nI bd) (nI lt) (nI (nt + 1)) u1v_485 u2v_486) h_515 (gm_ne h_515 h_489 (fun h => by cases h))
                          have h_539 := gm_pass (k := h) (y := moO h (nI le) bp (nI nr) (nI wh) (nI tl) (nI ne) (nI nf) (nI na) (nI an) (nI tm) (nI cn) (nI cs) (nI bd) (nI lt) (nI (nt + 1)) u1v_485 u2v_486) h_516 (gm_ne h_516 h_489 (fun h => by cases h))
                          have h_540 := gm_up_self M_483 h (moO h (nI le) bp (nI nr) (nI wh) (nI tl) (nI ne) (nI nf) (nI na) (nI an) (nI tm) (nI cn) (nI cs) (nI bd) (nI lt) (nI (nt + 1)) u1v_485 u2v_486)
                          refine W.eq (g2 := F0 m 284 ls [.int (-7)]) rfl ?_
                          rw [← hQ]
                          exact gc_iret hx hb hr hlk hP hS d_Mo_outward_284 ⟨rfl, Or.inr ⟨pr0, f0, (-7), fl, nf, em, cs, lt, (nt + 1), an, mq, u1v_485, u2v_486, ⟨rfl, hpr0⟩, ⟨rfl, hf0⟩, (by unfold outF; rw [if_neg (by omega), c_17]; simp only [hp_478]; rw [if_neg (by omega), if_neg (by omega)]; unfold openO; rw [if_neg (by omega), if_pos (by omega)]), hRF, (Or.inr ⟨by decide, rfl, rfl, rfl⟩), h_540, h_530, h_531, h_532, h_533, h_534, h_535, h_536, h_537, h_538, h_539, h_525, (fun z q0 q1 q2 q3 q4 q5 q6 q7 q8 q9 q10 q11 => (gm_up_ne _ _ q0).trans ((hfr_490 z q0).trans (rfl))), rfl⟩⟩
                        · skip
                          refine lv_iload hx hb d_Mo_outward_273 (lv_at hl 0 rfl) ?_
                          refine lz_ge (tgt := 285) hx hb d_Mo_outward_275 (by decide) (by omega) ?_
                          refine lv_aload_n hx hb d_Mo_outward_285 rfl (lv_at hl 3 rfl) ?_
                          refine lv_iload_n hx hb d_Mo_outward_286 rfl (lv_at hl 4 rfl) ?_
                          refine lv_iconst (v := nI 0) hx hb d_Mo_outward_287 (by decide) ?_
                          refine lv_aload_n hx hb d_Mo_outward_288 rfl (lv_at hl 3 rfl) ?_
                          refine gm_get (C := R_Mo) (T := F_Mo) (n := 44) hx hb htl i_Mo hown hK hP h_489 rfl 33 (by decide) (htl _ k_776) (fun _ h => h) rfl d_Mo_outward_289 ?_
                          refine lv_iconst (v := nI 0) hx hb d_Mo_outward_292 (by decide) ?_
                          refine gz_iald hx hb hK hP 0 h_501 rfl (by omega) (by omega) d_Mo_outward_293 ?_
                          rw [show hd 0 = so / 256 from hhd.1]
                          refine lv_aload_n hx hb d_Mo_outward_294 rfl (lv_at hl 3 rfl) ?_
                          refine gm_get (C := R_Mo) (T := F_Mo) (n := 44) hx hb htl i_Mo hown hK hP h_489 rfl 33 (by decide) (htl _ k_776) (fun _ h => h) rfl d_Mo_outward_295 ?_
                          refine lv_iconst (v := nI 1) hx hb d_Mo_outward_298 (by decide) ?_
                          refine gz_iald hx hb hK hP 0 h_501 rfl (by omega) (by omega) d_Mo_outward_299 ?_
                          rw [show hd 1 = so % 256 from hhd.2.1]
                          refine lv_aload_n hx hb d_Mo_outward_300 rfl (lv_at hl 3 rfl) ?_
                          refine gm_get (C := R_Mo) (T := F_Mo) (n := 44) hx hb htl i_Mo hown hK hP h_489 rfl 33 (by decide) (htl _ k_776) (fun _ h => h) rfl d_Mo_outward_301 ?_
                          refine lv_iconst (v := nI 2) hx hb d_Mo_outward_304 (by decide) ?_
                          refine gz_iald hx hb hK hP 0 h_501 rfl (by omega) (by omega) d_Mo_outward_305 ?_
                          rw [show hd 2 = ta / 256 from hhd.2.2.1]
                          refine lv_aload_n hx hb d_Mo_outward_306 rfl (lv_at hl 3 rfl) ?_
                          refine gm_get (C := R_Mo) (T := F_Mo) (n := 44) hx hb htl i_Mo hown hK hP h_489 rfl 33 (by decide) (htl _ k_776) (fun _ h => h) rfl d_Mo_outward_307 ?_
                          refine lv_iconst (v := nI 3) hx hb d_Mo_outward_310 (by decide) ?_
                          refine gz_iald hx hb hK hP 0 h_501 rfl (by omega) (by omega) d_Mo_outward_311 ?_
                          rw [show hd 3 = ta % 256 from hhd.2.2.2]
                          refine lv_iload hx hb d_Mo_outward_312 (lv_at hl 0 rfl) ?_
                          refine gc_V (q := (R_Mo, F_Mo, 44)) (n := 7) [.int (nI pr0), .int (nI 0), .int (nI (so / 256)), .int (nI (so % 256)), .int (nI (ta / 256)), .int (nI (ta % 256)), .int (nI vv_484)] [] hx hb hml hown hts hK hN hX hP hS (c_Mo_openFlow (fl := fl) (i0 := so) (o0 := ta) h_489 h_507 h_508 h_509 h_510 h_511 h_512 h_513 h_514 h_515 h_516 hRF (by omega) hF (by omega) (by omega) (by omega) (by omega)) rfl h_489 k_990 k_992 ks_Mo_openFlow k_10 k_993 (by decide +kernel) ⟨by decide, by decide⟩ rfl hl.1 rfl (Nat.le_of_ble_eq_true rfl) d_Mo_outward_314 ⟨by decide, by decide⟩ (fun r N1 M_542 H locs hw hP hS => ?_)
                          obtain ⟨rfl, hw⟩ := hw
                          obtain ⟨mq1v_543, c_544, h_545, h_546, h_547, h_548, h_549, h_550, h_551, h_552, h_553, h_554, h_555, hfr_556⟩ := hw
                          have h_557 := (hfr_556 _ (gm_ne h_496 h_489 (fun h => by cases h)) (by omega) (by omega) (by omega) (by omega) (by omega) (by omega) (by omega) (by omega) (by omega) (by omega)).trans h_496
                          have h_558 := (hfr_556 _ (gm_ne h_497 h_489 (fun h => by cases h)) (by omega) (by omega) (by omega) (by omega) (by omega) (by omega) (by omega) (by omega) (by omega) (by omega)).trans h_497
                          have h_559 := (hfr_556 _ (gm_ne h_498 h_489 (fun h => by cases h)) (by omega) (by omega) (by omega) (by omega) (by omega) (by omega) (by omega) (by omega) (by omega) (by omega)).trans h_498
                          have h_560 := (hfr_556 _ (gm_ne h_499 h_489 (fun h => by cases h)) (gm_ne h_499 h_507 (fun h => by simp at h)) (gm_ne h_499 h_508 (fun h => by simp at h)) (gm_ne h_499 h_509 (fun h => by simp at h)) (gm_ne h_499 h_510 (fun h => by simp at h)) (gm_ne h_499 h_511 (fun h => by simp at h)) (gm_ne h_499 h_512 (fun h => by simp at h)) (gm_ne h_499 h_513 (fun h => by simp at h)) (gm_ne h_499 h_514 (fun h => by simp at h)) (gm_ne h_499 h_515 (fun h => by simp at h)) (gm_ne h_499 h_516 (fun h => by simp at h))).trans h_499
                          have h_561 := (hfr_556 _ (gm_ne h_500 h_489 (fun h => by cases h)) (gm_ne h_500 h_507 (fun h => by simp at h)) (gm_ne h_500 h_508 (fun h => by simp at h)) (gm_ne h_500 h_509 (fun h => by simp at h)) (gm_ne h_500 h_510 (fun h => by simp at h)) (gm_ne h_500 h_511 (fun h => by simp at h)) (gm_ne h_500 h_512 (fun h => by simp at h)) (gm_ne h_500 h_513 (fun h => by simp at h)) (gm_ne h_500 h_514 (fun h => by simp at h)) (gm_ne h_500 h_515 (fun h => by simp at h)) (gm_ne h_500 h_516 (fun h => by simp at h))).trans h_500
                          have h_562 := (hfr_556 _ (gm_ne h_501 h_489 (fun h => by cases h)) (gm_ne h_501 h_507 (fun h => by simp at h)) (gm_ne h_501 h_508 (fun h => by simp at h)) (gm_ne h_501 h_509 (fun h => by simp at h)) (gm_ne h_501 h_510 (fun h => by simp at h)) (gm_ne h_501 h_511 (fun h => by simp at h)) (gm_ne h_501 h_512 (fun h => by simp at h)) (gm_ne h_501 h_513 (fun h => by simp at h)) (gm_ne h_501 h_514 (fun h => by simp at h)) (gm_ne h_501 h_515 (fun h => by simp at h)) (gm_ne h_501 h_516 (fun h => by simp at h))).trans h_501
                          have h_563 := (hfr_556 _ (gm_ne h_502 h_489 (fun h => by cases h)) (gm_ne h_502 h_507 (fun h => by simp at h)) (gm_ne h_502 h_508 (fun h => by simp at h)) (gm_ne h_502 h_509 (fun h => by simp at h)) (gm_ne h_502 h_510 (fun h => by simp at h)) (gm_ne h_502 h_511 (fun h => by simp at h)) (gm_ne h_502 h_512 (fun h => by simp at h)) (gm_ne h_502 h_513 (fun h => by simp at h)) (gm_ne h_502 h_514 (fun h => by simp at h)) (gm_ne h_502 h_515 (fun h => by simp at h)) (gm_ne h_502 h_516 (fun h => by simp at h))).trans h_502
                          have h_564 := (hfr_556 _ (gm_ne h_503 h_489 (fun h => by cases h)) (gm_ne h_503 h_507 (fun h => by simp at h)) (gm_ne h_503 h_508 (fun h => by simp at h)) (gm_ne h_503 h_509 (fun h => by simp at h)) (gm_ne h_503 h_510 (fun h => by simp at h)) (gm_ne h_503 h_511 (fun h => by simp at h)) (gm_ne h_503 h_512 (fun h => by simp at h)) (gm_ne h_503 h_513 (fun h => by simp at h)) (gm_ne h_503 h_514 (fun h => by simp at h)) (gm_ne h_503 h_515 (fun h => by simp at h)) (gm_ne h_503 h_516 (fun h => by simp at h))).trans h_503
                          have h_565 := (hfr_556 _ (gm_ne h_504 h_489 (fun h => by cases h)) (gm_ne h_504 h_507 (fun h => by simp at h)) (gm_ne h_504 h_508 (fun h => by simp at h)) (gm_ne h_504 h_509 (fun h => by simp at h)) (gm_ne h_504 h_510 (fun h => by simp at h)) (gm_ne h_504 h_511 (fun h => by simp at h)) (gm_ne h_504 h_512 (fun h => by simp at h)) (gm_ne h_504 h_513 (fun h => by simp at h)) (gm_ne h_504 h_514 (fun h => by simp at h)) (gm_ne h_504 h_515 (fun h => by simp at h)) (gm_ne h_504 h_516 (fun h => by simp at h))).trans h_504
                          have h_566 := (hfr_556 _ (gm_ne h_505 h_489 (fun h => by cases h)) (gm_ne h_505 h_507 (fun h => by simp at h)) (gm_ne h_505 h_508 (fun h => by simp at h)) (gm_ne h_505 h_509 (fun h => by simp at h)) (gm_ne h_505 h_510 (fun h => by simp at h)) (gm_ne h_505 h_511 (fun h => by simp at h)) (gm_ne h_505 h_512 (fun h => by simp at h)) (gm_ne h_505 h_513 (fun h => by simp at h)) (gm_ne h_505 h_514 (fun h => by simp at h)) (gm_ne h_505 h_515 (fun h => by simp at h)) (gm_ne h_505 h_516 (fun h => by simp at h))).trans h_505
                          have h_567 := (hfr_556 _ (gm_ne h_506 h_489 (fun h => by cases h)) (gm_ne h_506 h_507 (fun h => by simp at h)) (gm_ne h_506 h_508 (fun h => by simp at h)) (gm_ne h_506 h_509 (fun h => by simp at h)) (gm_ne h_506 h_510 (fun h => by simp at h)) (gm_ne h_506 h_511 (fun h => by simp at h)) (gm_ne h_506 h_512 (fun h => by simp at h)) (gm_ne h_506 h_513 (fun h => by simp at h)) (gm_ne h_506 h_514 (fun h => by simp at h)) (gm_ne h_506 h_515 (fun h => by simp at h)) (gm_ne h_506 h_516 (fun h => by simp at h))).trans h_506
                          refine W.eq (g2 := F0 m 317 ls []) rfl ?_
                          refine lv_aload_n hx hb d_Mo_outward_317 rfl (lv_at hl 3 rfl) ?_
                          refine lv_iconst (v := nI 0) hx hb d_Mo_outward_318 (by decide) ?_
                          refine lv_sipush (v := nI 200) hx hb d_Mo_outward_319 (by decide) ?_
                          refine lv_iload hx hb d_Mo_outward_322 (lv_at hl 0 rfl) ?_
                          refine lv_aload_n hx hb d_Mo_outward_324 rfl (lv_at hl 3 rfl) ?_
                          refine gm_get (C := R_Mo) (T := F_Mo) (n := 44) hx hb htl i_Mo hown hK hP h_545 rfl 33 (by decide) (htl _ k_776) (fun _ h => h) rfl d_Mo_outward_325 ?_
                          refine lv_iconst (v := nI 2) hx hb d_Mo_outward_328 (by decide) ?_
                          refine gz_iald hx hb hK hP 0 h_562 rfl (by omega) (by omega) d_Mo_outward_329 ?_
                          rw [show hd 2 = ta / 256 from hhd.2.2.1]
                          refine lv_aload_n hx hb d_Mo_outward_330 rfl (lv_at hl 3 rfl) ?_
                          refine gm_get (C := R_Mo) (T := F_Mo) (n := 44) hx hb htl i_Mo hown hK hP h_545 rfl 33 (by decide) (htl _ k_776) (fun _ h => h) rfl d_Mo_outward_331 ?_
                          refine lv_iconst (v := nI 3) hx hb d_Mo_outward_334 (by decide) ?_
                          refine gz_iald hx hb hK hP 0 h_562 rfl (by omega) (by omega) d_Mo_outward_335 ?_
                          rw [show hd 3 = ta % 256 from hhd.2.2.2]
                          refine gc_V (q := (R_Mo, F_Mo, 44)) (n := 5) [.int (nI 0), .int (nI 200), .int (nI vv_484), .int (nI (ta / 256)), .int (nI (ta % 256))] [] hx hb hml hown hts hK hN hX hP hS (c_Mo_emit (nI 0) h_545 h_563) rfl h_545 k_975 k_977 ks_Mo_emit k_10 k_978 (by decide +kernel) ⟨by decide, by decide⟩ rfl hl.1 rfl (Nat.le_of_ble_eq_true rfl) d_Mo_outward_336 ⟨by decide, by decide⟩ (fun r N1 M_568 H locs hw hP hS => ?_)
                          obtain ⟨rfl, hw⟩ := hw
                          obtain ⟨rfl, rfl⟩ := hw
                          have h_569 := gm_pass (k := (h + 27)) (y := .inl (ca 0, 4, .inl (iN (eUp em 200 vv_484 (ta / 256) (ta % 256))))) h_557 (gm_ne h_557 h_563 (fun h => by simp at h))
                          have h_570 := gm_pass (k := (h + 27)) (y := .inl (ca 0, 4, .inl (iN (eUp em 200 vv_484 (ta / 256) (ta % 256))))) h_558 (gm_ne h_558 h_563 (fun h => by simp at h))
                          have h_571 := gm_pass (k := (h + 27)) (y := .inl (ca 0, 4, .inl (iN (eUp em 200 vv_484 (ta / 256) (ta % 256))))) h_559 (gm_ne h_559 h_563 (fun h => by simp at h))
                          have h_572 := gm_pass (k := (h + 27)) (y := .inl (ca 0, 4, .inl (iN (eUp em 200 vv_484 (ta / 256) (ta % 256))))) h_560 (gm_ne h_560 h_563 (fun h => by simp at h))
                          have h_573 := gm_pass (k := (h + 27)) (y := .inl (ca 0, 4, .inl (iN (eUp em 200 vv_484 (ta / 256) (ta % 256))))) h_561 (gm_ne h_561 h_563 (fun h => by simp at h))
                          have h_574 := gm_pass (k := (h + 27)) (y := .inl (ca 0, 4, .inl (iN (eUp em 200 vv_484 (ta / 256) (ta % 256))))) h_562 (by omega)
                          have h_575 := gm_pass (k := (h + 27)) (y := .inl (ca 0, 4, .inl (iN (eUp em 200 vv_484 (ta / 256) (ta % 256))))) h_564 (gm_ne h_564 h_563 (fun h => by simp at h))
                          have h_576 := gm_pass (k := (h + 27)) (y := .inl (ca 0, 4, .inl (iN (eUp em 200 vv_484 (ta / 256) (ta % 256))))) h_565 (gm_ne h_565 h_563 (fun h => by simp at h))
                          have h_577 := gm_pass (k := (h + 27)) (y := .inl (ca 0, 4, .inl (iN (eUp em 200 vv_484 (ta / 256) (ta % 256))))) h_566 (gm_ne h_566 h_563 (fun h => by simp at h))
                          have h_578 := gm_pass (k := (h + 27)) (y := .inl (ca 0, 4, .inl (iN (eUp em 200 vv_484 (ta / 256) (ta % 256))))) h_567 (gm_ne h_567 h_563 (fun h => by simp at h))
                          have h_579 := gm_pass (k := (h + 27)) (y := .inl (ca 0, 4, .inl (iN (eUp em 200 vv_484 (ta / 256) (ta % 256))))) h_545 (gm_ne h_545 h_563 (fun h => by cases h))
                          have h_580 := gm_pass (k := (h + 27)) (y := .inl (ca 0, 4, .inl (iN (eUp em 200 vv_484 (ta / 256) (ta % 256))))) h_546 (gm_ne h_546 h_563 (fun h => by simp at h))
                          have h_581 := gm_pass (k := (h + 27)) (y := .inl (ca 0, 4, .inl (iN (eUp em 200 vv_484 (ta / 256) (ta % 256))))) h_547 (gm_ne h_547 h_563 (fun h => by simp at h))
                          have h_582 := gm_pass (k := (h + 27)) (y := .inl (ca 0, 4, .inl (iN (eUp em 200 vv_484 (ta / 256) (ta % 256))))) h_548 (gm_ne h_548 h_563 (fun h => by simp at h))
                          have h_583 := gm_pass (k := (h + 27)) (y := .inl (ca 0, 4, .inl (iN (eUp em 200 vv_484 (ta / 256) (ta % 256))))) h_549 (gm_ne h_549 h_563 (fun h => by simp at h))
                          have h_584 := gm_pass (k := (h + 27)) (y := .inl (ca 0, 4, .inl (iN (eUp em 200 vv_484 (ta / 256) (ta % 256))))) h_550 (gm_ne h_550 h_563 (fun h => by simp at h))
                          have h_585 := gm_pass (k := (h + 27)) (y := .inl (ca 0, 4, .inl (iN (eUp em 200 vv_484 (ta / 256) (ta % 256))))) h_551 (gm_ne h_551 h_563 (fun h => by simp at h))
                          have h_586 := gm_pass (k := (h + 27)) (y := .inl (ca 0, 4, .inl (iN (eUp em 200 vv_484 (ta / 256) (ta % 256))))) h_552 (gm_ne h_552 h_563 (fun h => by simp at h))
                          have h_587 := gm_pass (k := (h + 27)) (y := .inl (ca 0, 4, .inl (iN (eUp em 200 vv_484 (ta / 256) (ta % 256))))) h_553 (gm_ne h_553 h_563 (fun h => by simp at h))
                          have h_588 := gm_pass (k := (h + 27)) (y := .inl (ca 0, 4, .inl (iN (eUp em 200 vv_484 (ta / 256) (ta % 256))))) h_554 (gm_ne h_554 h_563 (fun h => by simp at h))
                          have h_589 := gm_pass (k := (h + 27)) (y := .inl (ca 0, 4, .inl (iN (eUp em 200 vv_484 (ta / 256) (ta % 256))))) h_555 (gm_ne h_555 h_563 (fun h => by simp at h))
                          have h_590 := gm_up_self M_542 (h + 27) (.inl (ca 0, 4, .inl (iN (eUp em 200 vv_484 (ta / 256) (ta % 256)))))
                          have hP : gm_P D cls A N (gm_up (gm_up M_542 (h + 27) (.inl (ca 0, 4, .inl (iN (eUp em 200 vv_484 (ta / 256) (ta % 256)))))) h (moO h (nI le) bp (nI nr) (nI wh) (nI tl) (nI ne) (nI (nf + 1)) (nI na) (nI 1) (nI tm) (nI cn) (nI cs) (nI bd) (nI (lt + 1)) (nI nt) u1v_485 u2v_486)) H := hP
                          have h_591 := gm_pass (k := h) (y := moO h (nI le) bp (nI nr) (nI wh) (nI tl) (nI ne) (nI (nf + 1)) (nI na) (nI 1) (nI tm) (nI cn) (nI cs) (nI bd) (nI (lt + 1)) (nI nt) u1v_485 u2v_486) h_569 (gm_ne h_569 h_579 (fun h => by cases h))
                          have h_592 := gm_pass (k := h) (y := moO h (nI le) bp (nI nr) (nI wh) (nI tl) (nI ne) (nI (nf + 1)) (nI na) (nI 1) (nI tm) (nI cn) (nI cs) (nI bd) (nI (lt + 1)) (nI nt) u1v_485 u2v_486) h_570 (gm_ne h_570 h_579 (fun h => by cases h))
                          have h_593 := gm_pass (k := h) (y := moO h (nI le) bp (nI nr) (nI wh) (nI tl) (nI ne) (nI (nf + 1)) (nI na) (nI 1) (nI tm) (nI cn) (nI cs) (nI bd) (nI (lt + 1)) (nI nt) u1v_485 u2v_486) h_571 (gm_ne h_571 h_579 (fun h => by cases h))
                          have h_594 := gm_pass (k := h) (y := moO h (nI le) bp (nI nr) (nI wh) (nI tl) (nI ne) (nI (nf + 1)) (nI na) (nI 1) (nI tm) (nI cn) (nI cs) (nI bd) (nI (lt + 1)) (nI nt) u1v_485 u2v_486) h_572 (gm_ne h_572 h_579 (fun h => by cases h))
                          have h_595 := gm_pass (k := h) (y := moO h (nI le) bp (nI nr) (nI wh) (nI tl) (nI ne) (nI (nf + 1)) (nI na) (nI 1) (nI tm) (nI cn) (nI cs) (nI bd) (nI (lt + 1)) (nI nt) u1v_485 u2v_486) h_573 (gm_ne h_573 h_579 (fun h => by cases h))
                          have h_596 := gm_pass (k := h) (y := moO h (nI le) bp (nI nr) (nI wh) (nI tl) (nI ne) (nI (nf + 1)) (nI na) (nI 1) (nI tm) (nI cn) (nI cs) (nI bd) (nI (lt + 1)) (nI nt) u1v_485 u2v_486) h_574 (gm_ne h_574 h_579 (fun h => by cases h))
                          have h_597 := gm_pass (k := h) (y := moO h (nI le) bp (nI nr) (nI wh) (nI tl) (nI ne) (nI (nf + 1)) (nI na) (nI 1) (nI tm) (nI cn) (nI cs) (nI bd) (nI (lt + 1)) (nI nt) u1v_485 u2v_486) h_575 (gm_ne h_575 h_579 (fun h => by cases h))
                          have h_598 := gm_pass (k := h) (y := moO h (nI le) bp (nI nr) (nI wh) (nI tl) (nI ne) (nI (nf + 1)) (nI na) (nI 1) (nI tm) (nI cn) (nI cs) (nI bd) (nI (lt + 1)) (nI nt) u1v_485 u2v_486) h_576 (gm_ne h_576 h_579 (fun h => by cases h))
                          have h_599 := gm_pass (k := h) (y := moO h (nI le) bp (nI nr) (nI wh) (nI tl) (nI ne) (nI (nf + 1)) (nI na) (nI 1) (nI tm) (nI cn) (nI cs) (nI bd) (nI (lt + 1)) (nI nt) u1v_485 u2v_486) h_577 (gm_ne h_577 h_579 (fun h => by cases h))
                          have h_600 := gm_pass (k := h) (y := moO h (nI le) bp (nI nr) (nI wh) (nI tl) (nI ne) (nI (nf + 1)) (nI na) (nI 1) (nI tm) (nI cn) (nI cs) (nI bd) (nI (lt + 1)) (nI nt) u1v_485 u2v_486) h_578 (gm_ne h_578 h_579 (fun h => by cases h))
                          have h_601 := gm_pass (k := h) (y := moO h (nI le) bp (nI nr) (nI wh) (nI tl) (nI ne) (nI (nf + 1)) (nI na) (nI 1) (nI tm) (nI cn) (nI cs) (nI bd) (nI (lt + 1)) (nI nt) u1v_485 u2v_486) h_580 (gm_ne h_580 h_579 (fun h => by cases h))
                          have h_602 := gm_pass (k := h) (y := moO h (nI le) bp (nI nr) (nI wh) (nI tl) (nI ne) (nI (nf + 1)) (nI na) (nI 1) (nI tm) (nI cn) (nI cs) (nI bd) (nI (lt + 1)) (nI nt) u1v_485 u2v_486) h_581 (gm_ne h_581 h_579 (fun h => by cases h))
                          have h_603 := gm_pass (k := h) (y := moO h (nI le) bp (nI nr) (nI wh) (nI tl) (nI ne) (nI (nf + 1)) (nI na) (nI 1) (nI tm) (nI cn) (nI cs) (nI bd) (nI (lt + 1)) (nI nt) u1v_485 u2v_486) h_582 (gm_ne h_582 h_579 (fun h => by cases h))
                          have h_604 := gm_pass (k := h) (y := moO h (nI le) bp (nI nr) (nI wh) (nI tl) (nI ne) (nI (nf + 1)) (nI na) (nI 1) (nI tm) (nI cn) (nI cs) (nI bd) (nI (lt + 1)) (nI nt) u1v_485 u2v_486) h_583 (gm_ne h_583 h_579 (fun h => by cases h))
                          have h_605 := gm_pass (k := h) (y := moO h (nI le) bp (nI nr) (nI wh) (nI tl) (nI ne) (nI (nf + 1)) (nI na) (nI 1) (nI tm) (nI cn) (nI cs) (nI bd) (nI (lt + 1)) (nI nt) u1v_485 u2v_486) h_584 (gm_ne h_584 h_579 (fun h => by cases h))
                          have h_606 := gm_pass (k := h) (y := moO h (nI le) bp (nI nr) (nI wh) (nI tl) (nI ne) (nI (nf + 1)) (nI na) (nI 1) (nI tm) (nI cn) (nI cs) (nI bd) (nI (lt + 1)) (nI nt) u1v_485 u2v_486) h_585 (gm_ne h_585 h_579 (fun h => by cases h))
                          have h_607 := gm_pass (k := h) (y := moO h (nI le) bp (nI nr) (nI wh) (nI tl) (nI ne) (nI (nf + 1)) (nI na) (nI 1) (nI tm) (nI cn) (nI cs) (nI bd) (nI (lt + 1)) (nI nt) u1v_485 u2v_486) h_586 (gm_ne h_586 h_579 (fun h => by cases h))
                          have h_608 := gm_pass (k := h) (y := moO h (nI le) bp (nI nr) (nI wh) (nI tl) (nI ne) (nI (nf + 1)) (nI na) (nI 1) (nI tm) (nI cn) (nI cs) (nI bd) (nI (lt + 1)) (nI nt) u1v_485 u2v_486) h_587 (gm_ne h_587 h_579 (fun h => by cases h))
                          have h_609 := gm_pass (k := h) (y := moO h (nI le) bp (nI nr) (nI wh) (nI tl) (nI ne) (nI (nf + 1)) (nI na) (nI 1) (nI tm) (nI cn) (nI cs) (nI bd) (nI (lt + 1)) (nI nt) u1v_485 u2v_486) h_588 (gm_ne h_588 h_579 (fun h => by cases h))
                          have h_610 := gm_pass (k := h) (y := moO h (nI le) bp (nI nr) (nI wh) (nI tl) (nI ne) (nI (nf + 1)) (nI na) (nI 1) (nI tm) (nI cn) (nI cs) (nI bd) (nI (lt + 1)) (nI nt) u1v_485 u2v_486) h_589 (gm_ne h_589 h_579 (fun h => by cases h))
                          have h_611 := gm_pass (k := h) (y := moO h (nI le) bp (nI nr) (nI wh) (nI tl) (nI ne) (nI (nf + 1)) (nI na) (nI 1) (nI tm) (nI cn) (nI cs) (nI bd) (nI (lt + 1)) (nI nt) u1v_485 u2v_486) h_590 (gm_ne h_590 h_579 (fun h => by cases h))
                          have h_612 := gm_up_self (gm_up M_542 (h + 27) (.inl (ca 0, 4, .inl (iN (eUp em 200 vv_484 (ta / 256) (ta % 256)))))) h (moO h (nI le) bp (nI nr) (nI wh) (nI tl) (nI ne) (nI (nf + 1)) (nI na) (nI 1) (nI tm) (nI cn) (nI cs) (nI bd) (nI (lt + 1)) (nI nt) u1v_485 u2v_486)
                          refine W.eq (g2 := F0 m 339 ls [.int (nI 0)]) rfl ?_
                          rw [← hQ]
                          exact gc_iret hx hb hr hlk hP hS d_Mo_outward_339 ⟨rfl, Or.inr ⟨pr0, f0, (nI 0), _, (nf + 1), (eUp em 200 vv_484 (ta / 256) (ta % 256)), cs, (lt + 1), nt, 1, mq1v_543, u1v_485, u2v_486, ⟨rfl, hpr0⟩, ⟨rfl, hf0⟩, (by unfold outF; rw [if_neg (by omega), c_17]; simp only [hp_478]; rw [if_neg (by omega), if_neg (by omega)]; unfold openO; rw [if_neg (by omega), if_neg (by omega), c_133, c_487]; rfl), c_544, (Or.inl ⟨by decide, rfl, rfl, rfl⟩), h_612, h_601, h_602, h_603, h_604, h_605, h_606, h_607, h_608, h_609, h_610, h_611, (fun z q0 q1 q2 q3 q4 q5 q6 q7 q8 q9 q10 q11 => (gm_up_ne _ _ q0).trans ((gm_up_ne _ _ q11).trans ((hfr_556 z q0 q1 q2 q3 q4 q5 q6 q7 q8 q9 q10).trans ((hfr_490 z q0).trans (rfl))))), rfl⟩⟩
                      · skip
                        have h_613 := (hfr_495 _ (gm_ne m2 eh (fun h => by cases h))).trans m2
                        have h_614 := (hfr_495 _ (gm_ne m3 eh (fun h => by cases h))).trans m3
                        have h_615 := (hfr_495 _ (gm_ne m4 eh (fun h => by cases h))).trans m4
                        have h_616 := (hfr_495 _ (gm_ne m5 eh (fun h => by cases h))).trans m5
                        have h_617 := (hfr_495 _ (gm_ne m6 eh (fun h => by cases h))).trans m6
                        have h_618 := (hfr_495 _ (gm_ne m26 eh (fun h => by cases h))).trans m26
                        have h_619 := (hfr_495 _ (gm_ne m27 eh (fun h => by cases h))).trans m27
                        have h_620 := (hfr_495 _ (gm_ne m10 eh (fun h => by cases h))).trans m10
                        have h_621 := (hfr_495 _ (gm_ne m11 eh (fun h => by cases h))).trans m11
                        have h_622 := (hfr_495 _ (gm_ne m12 eh (fun h => by cases h))).trans m12
                        have h_623 := (hfr_495 _ (gm_ne m13 eh (fun h => by cases h))).trans m13
                        have h_624 := (hfr_495 _ (gm_ne m14 eh (fun h => by cases h))).trans m14
                        have h_625 := (hfr_495 _ (gm_ne m15 eh (fun h => by cases h))).trans m15
                        have h_626 := (hfr_495 _ (gm_ne m16 eh (fun h => by cases h))).trans m16
                        have h_627 := (hfr_495 _ (gm_ne m17 eh (fun h => by cases h))).trans m17
                        have h_628 := (hfr_495 _ (gm_ne m18 eh (fun h => by cases h))).trans m18
                        have h_629 := (hfr_495 _ (gm_ne m19 eh (fun h => by cases h))).trans m19
                        have h_630 := (hfr_495 _ (gm_ne m20 eh (fun h => by cases h))).trans m20
                        have h_631 := (hfr_495 _ (gm_ne m21 eh (fun h => by cases h))).trans m21
                        have h_632 := (hfr_495 _ (gm_ne m22 eh (fun h => by cases h))).trans m22
                        have h_633 := (hfr_495 _ (gm_ne m23 eh (fun h => by cases h))).trans m23
                        refine W.eq (g2 := F0 m 262 ls [.int (-1)]) rfl ?_
                        refine lv_istore (lv' := [(4, .int (-1)), (5, .int (nI av_476)), (3, .int (-1)), (0, .ref h), (1, .int (nI pr0)), (2, .int (nI f0))]) hx hb d_Mo_outward_262 hl (by decide) rfl (fun ls hl => ?_)
                        refine lv_aload_n hx hb d_Mo_outward_264 rfl (lv_at hl 3 rfl) ?_
                        refine gm_get (C := R_Mo) (T := F_Mo) (n := 44) hx hb htl i_Mo hown hK hP h_494 rfl 29 (by decide) (htl _ k_772) (fun _ h => h) rfl d_Mo_outward_265 ?_
                        refine lv_bipush (v := nI 16) hx hb d_Mo_outward_268 (by decide) ?_
                        refine ln_eq (tgt := 278) hx hb d_Mo_outward_270 (by decide) (by omega) (by omega) (fun c_634 => ?_) (fun c_634 => ?_)
                        · skip
                          refine lv_aload_n hx hb d_Mo_outward_278 rfl (lv_at hl 3 rfl) ?_
                          refine lv_bipush (v := (-7)) hx hb d_Mo_outward_279 (by decide) ?_
                          refine gc_V (q := (R_Mo, F_Mo, 44)) (n := 1) [.int (-7)] [] hx hb hml hown hts hK hN hX hP hS (c_Mo_stop (-7) h_494) rfl h_494 k_959 k_961 ks_Mo_stop k_10 k_962 (by decide +kernel) ⟨by decide, by decide⟩ rfl hl.1 rfl (Nat.le_of_ble_eq_true rfl) d_Mo_outward_281 ⟨by decide, by decide⟩ (fun r N1 M_635 H locs hw hP hS => ?_)
                          obtain ⟨rfl, hw⟩ := hw
                          obtain ⟨rfl, rfl⟩ := hw
                          have hP : gm_P D cls A N (gm_up M_483 h (moO h (nI le) bp (nI nr) (nI wh) (nI tl) (nI ne) (nI nf) (nI na) (nI an) (nI tm) (nI cn) (nI cs) (nI bd) (nI lt) (nI (nt + 1)) u1v_491 u2v_492)) H := hP
                          have h_636 := gm_pass (k := h) (y := moO h (nI le) bp (nI nr) (nI wh) (nI tl) (nI ne) (nI nf) (nI na) (nI an) (nI tm) (nI cn) (nI cs) (nI bd) (nI lt) (nI (nt + 1)) u1v_491 u2v_492) h_613 (gm_ne h_613 h_494 (fun h => by cases h))
                          have h_637 := gm_pass (k := h) (y := moO h (nI le) bp (nI nr) (nI wh) (nI tl) (nI ne) (nI nf) (nI na) (nI an) (nI tm) (nI cn) (nI cs) (nI bd) (nI lt) (nI (nt + 1)) u1v_491 u2v_492) h_614 (gm_ne h_614 h_494 (fun h => by cases h))
                          have h_638 := gm_pass (k := h) (y := moO h (nI le) bp (nI nr) (nI wh) (nI tl) (nI ne) (nI nf) (nI na) (nI an) (nI tm) (nI cn) (nI cs) (nI bd) (nI lt) (nI (nt + 1)) u1v_491 u2v_492) h_615 (gm_ne h_615 h_494 (fun h => by cases h))
                          have h_639 := gm_pass (k := h) (y := moO h (nI le) bp (nI nr) (nI wh) (nI tl) (nI ne) (nI nf) (nI na) (nI an) (nI tm) (nI cn) (nI cs) (nI bd) (nI lt) (nI (nt + 1)) u1v_491 u2v_492) h_616 (gm_ne h_616 h_494 (fun h => by cases h))
                          have h_640 := gm_pass (k := h) (y := moO h (nI le) bp (nI nr) (nI wh) (nI tl) (nI ne) (nI nf) (nI na) (nI an) (nI tm) (nI cn) (nI cs) (nI bd) (nI lt) (nI (nt + 1)) u1v_491 u2v_492) h_617 (gm_ne h_617 h_494 (fun h => by cases h))
                          have h_641 := gm_pass (k := h) (y := moO h (nI le) bp (nI nr) (nI wh) (nI tl) (nI ne) (nI nf) (nI na) (nI an) (nI tm) (nI cn) (nI cs) (nI bd) (nI lt) (nI (nt + 1)) u1v_491 u2v_492) h_618 (gm_ne h_618 h_494 (fun h => by cases h))
                          have h_642 := gm_pass (k := h) (y := moO h (nI le) bp (nI nr) (nI wh) (nI tl) (nI ne) (nI nf) (nI na) (nI an) (nI tm) (nI cn) (nI cs) (nI bd) (nI lt) (nI (nt + 1)) u1v_491 u2v_492) h_619 (gm_ne h_619 h_494 (fun h => by cases h))
                          have h_643 := gm_pass (k := h) (y := moO h (nI le) bp (nI nr) (nI wh) (nI tl) (nI ne) (nI nf) (nI na) (nI an) (nI tm) (nI cn) (nI cs) (nI bd) (nI lt) (nI (nt + 1)) u1v_491 u2v_492) h_620 (gm_ne h_620 h_494 (fun h => by cases h))
                          have h_644 := gm_pass (k := h) (y := moO h (nI le) bp (nI nr) (nI wh) (nI tl) (nI ne) (nI nf) (nI na) (nI an) (nI tm) (nI cn) (nI cs) (nI bd) (nI lt) (nI (nt + 1)) u1v_491 u2v_492) h_621 (gm_ne h_621 h_494 (fun h => by cases h))
                          have h_645 := gm_pass (k := h) (y := moO h (nI le) bp (nI nr) (nI wh) (nI tl) (nI ne) (nI nf) (nI na) (nI an) (nI tm) (nI cn) (nI cs) (nI bd) (nI lt) (nI (nt + 1)) u1v_491 u2v_492) h_622 (gm_ne h_622 h_494 (fun h => by cases h))
                          have h_646 := gm_pass (k := h) (y := moO h (nI le) bp (nI nr) (nI wh) (nI tl) (nI ne) (nI nf) (nI na) (nI an) (nI tm) (nI cn) (nI cs) (nI bd) (nI lt) (nI (nt + 1)) u1v_491 u2v_492) h_623 (gm_ne h_623 h_494 (fun h => by cases h))
                          have h_647 := gm_pass (k := h) (y := moO h (nI le) bp (nI nr) (nI wh) (nI tl) (nI ne) (nI nf) (nI na) (nI an) (nI tm) (nI cn) (nI cs) (nI bd) (nI lt) (nI (nt + 1)) u1v_491 u2v_492) h_624 (gm_ne h_624 h_494 (fun h => by cases h))
                          have h_648 := gm_pass (k := h) (y := moO h (nI le) bp (nI nr) (nI wh) (nI tl) (nI ne) (nI nf) (nI na) (nI an) (nI tm) (nI cn) (nI cs) (nI bd) (nI lt) (nI (nt + 1)) u1v_491 u2v_492) h_625 (gm_ne h_625 h_494 (fun h => by cases h))
                          have h_649 := gm_pass (k := h) (y := moO h (nI le) bp (nI nr) (nI wh) (nI tl) (nI ne) (nI nf) (nI na) (nI an) (nI tm) (nI cn) (nI cs) (nI bd) (nI lt) (nI (nt + 1)) u1v_491 u2v_492) h_626 (gm_ne h_626 h_494 (fun h => by cases h))
                          have h_650 := gm_pass (k := h) (y := moO h (nI le) bp (nI nr) (nI wh) (nI tl) (nI ne) (nI nf) (nI na) (nI an) (nI tm) (nI cn) (nI cs) (nI bd) (nI lt) (nI (nt + 1)) u1v_491 u2v_492) h_627 (gm_ne h_627 h_494 (fun h => by cases h))
                          have h_651 := gm_pass (k := h) (y := moO h (nI le) bp (nI nr) (nI wh) (nI tl) (nI ne) (nI nf) (nI na) (nI an) (nI tm) (nI cn) (nI cs) (nI bd) (nI lt) (nI (nt + 1)) u1v_491 u2v_492) h_628 (gm_ne h_628 h_494 (fun h => by cases h))
                          have h_652 := gm_pass (k := h) (y := moO h (nI le) bp (nI nr) (nI wh) (nI tl) (nI ne) (nI nf) (nI na) (nI an) (nI tm) (nI cn) (nI cs) (nI bd) (nI lt) (nI (nt + 1)) u1v_491 u2v_492) h_629 (gm_ne h_629 h_494 (fun h => by cases h))
                          have h_653 := gm_pass (k := h) (y := moO h (nI le) bp (nI nr) (nI wh) (nI tl) (nI ne) (nI nf) (nI na) (nI an) (nI tm) (nI cn) (nI cs) (nI bd) (nI lt) (nI (nt + 1)) u1v_491 u2v_492) h_630 (gm_ne h_630 h_494 (fun h => by cases h))
                          have h_654 := gm_pass (k := h) (y := moO h (nI le) bp (nI nr) (nI wh) (nI tl) (nI ne) (nI nf) (nI na) (nI an) (nI tm) (nI cn) (nI cs) (nI bd) (nI lt) (nI (nt + 1)) u1v_491 u2v_492) h_631 (gm_ne h_631 h_494 (fun h => by cases h))
                          have h_655 := gm_pass (k := h) (y := moO h (nI le) bp (nI nr) (nI wh) (nI tl) (nI ne) (nI nf) (nI na) (nI an) (nI tm) (nI cn) (nI cs) (nI bd) (nI lt) (nI (nt + 1)) u1v_491 u2v_492) h_632 (gm_ne h_632 h_494 (fun h => by cases h))
                          have h_656 := gm_pass (k := h) (y := moO h (nI le) bp (nI nr) (nI wh) (nI tl) (nI ne) (nI nf) (nI na) (nI an) (nI tm) (nI cn) (nI cs) (nI bd) (nI lt) (nI (nt + 1)) u1v_491 u2v_492) h_633 (gm_ne h_633 h_494 (fun h => by cases h))
                          have h_657 := gm_up_self M_483 h (moO h (nI le) bp (nI nr) (nI wh) (nI tl) (nI ne) (nI nf) (nI na) (nI an) (nI tm) (nI cn) (nI cs) (nI bd) (nI lt) (nI (nt + 1)) u1v_491 u2v_492)
                          refine W.eq (g2 := F0 m 284 ls [.int (-7)]) rfl ?_
                          rw [← hQ]
                          exact gc_iret hx hb hr hlk hP hS d_Mo_outward_284 ⟨rfl, Or.inr ⟨pr0, f0, (-7), fl, nf, em, cs, lt, (nt + 1), an, mq, u1v_491, u2v_492, ⟨rfl, hpr0⟩, ⟨rfl, hf0⟩, (by unfold outF; rw [if_neg (by omega), c_17]; simp only [hp_478]; rw [if_neg (by omega), if_neg (by omega)]; unfold openO; rw [if_neg (by omega), if_pos (by omega)]), hRF, (Or.inr ⟨by decide, rfl, rfl, rfl⟩), h_657, h_647, h_648, h_649, h_650, h_651, h_652, h_653, h_654, h_655, h_656, h_642, (fun z q0 q1 q2 q3 q4 q5 q6 q7 q8 q9 q10 q11 => (gm_up_ne _ _ q0).trans ((hfr_495 z q0).trans (rfl))), rfl⟩⟩
                        · skip
                          refine lv_iload hx hb d_Mo_outward_273 (lv_at hl 0 rfl) ?_
                          refine lv_if_ge (tgt := 285) hx hb d_Mo_outward_275 (by decide) (fun q => absurd q (by decide)) (fun _ => ?_)
                          refine lv_aload_n hx hb d_Mo_outward_278 rfl (lv_at hl 3 rfl) ?_
                          refine lv_bipush (v := (-7)) hx hb d_Mo_outward_279 (by decide) ?_
                          refine gc_V (q := (R_Mo, F_Mo, 44)) (n := 1) [.int (-7)] [] hx hb hml hown hts hK hN hX hP hS (c_Mo_stop (-7) h_494) rfl h_494 k_959 k_961 ks_Mo_stop k_10 k_962 (by decide +kernel) ⟨by decide, by decide⟩ rfl hl.1 rfl (Nat.le_of_ble_eq_true rfl) d_Mo_outward_281 ⟨by decide, by decide⟩ (fun r N1 M_658 H locs hw hP hS => ?_)
                          obtain ⟨rfl, hw⟩ := hw
                          obtain ⟨rfl, rfl⟩ := hw
                          have hP : gm_P D cls A N (gm_up M_483 h (moO h (nI le) bp (nI nr) (nI wh) (nI tl) (nI ne) (nI nf) (nI na) (nI an) (nI tm) (nI cn) (nI cs) (nI bd) (nI lt) (nI (nt + 1)) u1v_491 u2v_492)) H := hP
                          have h_659 := gm_pass (k := h) (y := moO h (nI le) bp (nI nr) (nI wh) (nI tl) (nI ne) (nI nf) (nI na) (nI an) (nI tm) (nI cn) (nI cs) (nI bd) (nI lt) (nI (nt + 1)) u1v_491 u2v_492) h_613 (gm_ne h_613 h_494 (fun h => by cases h))
                          have h_660 := gm_pass (k := h) (y := moO h (nI le) bp (nI nr) (nI wh) (nI tl) (nI ne) (nI nf) (nI na) (nI an) (nI tm) (nI cn) (nI cs) (nI bd) (nI lt) (nI (nt + 1)) u1v_491 u2v_492) h_614 (gm_ne h_614 h_494 (fun h => by cases h))
                          have h_661 := gm_pass (k := h) (y := moO h (nI le) bp (nI nr) (nI wh) (nI tl) (nI ne) (nI nf) (nI na) (nI an) (nI tm) (nI cn) (nI cs) (nI bd) (nI lt) (nI (nt + 1)) u1v_491 u2v_492) h_615 (gm_ne h_615 h_494 (fun h => by cases h))
                          have h_662 := gm_pass (k := h) (y := moO h (nI le) bp (nI nr) (nI wh) (nI tl) (nI ne) (nI nf) (nI na) (nI an) (nI tm) (nI cn) (nI cs) (nI bd) (nI lt) (nI (nt + 1)) u1v_491 u2v_492) h_616 (gm_ne h_616 h_494 (fun h => by cases h))
                          have h_663 := gm_pass (k := h) (y := moO h (nI le) bp (nI nr) (nI wh) (nI tl) (nI ne) (nI nf) (nI na) (nI an) (nI tm) (nI cn) (nI cs) (nI bd) (nI lt) (nI (nt + 1)) u1v_491 u2v_492) h_617 (gm_ne h_617 h_494 (fun h => by cases h))
                          have h_664 := gm_pass (k := h) (y := moO h (nI le) bp (nI nr) (nI wh) (nI tl) (nI ne) (nI nf) (nI na) (nI an) (nI tm) (nI cn) (nI cs) (nI bd) (nI lt) (nI (nt + 1)) u1v_491 u2v_492) h_618 (gm_ne h_618 h_494 (fun h => by cases h))
                          have h_665 := gm_pass (k := h) (y := moO h (nI le) bp (nI nr) (nI wh) (nI tl) (nI ne) (nI nf) (nI na) (nI an) (nI tm) (nI cn) (nI cs) (nI bd) (nI lt) (nI (nt + 1)) u1v_491 u2v_492) h_619 (gm_ne h_619 h_494 (fun h => by cases h))
                          have h_666 := gm_pass (k := h) (y := moO h (nI le) bp (nI nr) (nI wh) (nI tl) (nI ne) (nI nf) (nI na) (nI an) (nI tm) (nI cn) (nI cs) (nI bd) (nI lt) (nI (nt + 1)) u1v_491 u2v_492) h_620 (gm_ne h_620 h_494 (fun h => by cases h))
                          have h_667 := gm_pass (k := h) (y := moO h (nI le) bp (nI nr) (nI wh) (nI tl) (nI ne) (nI nf) (nI na) (nI an) (nI tm) (nI cn) (nI cs) (nI bd) (nI lt) (nI (nt + 1)) u1v_491 u2v_492) h_621 (gm_ne h_621 h_494 (fun h => by cases h))
                          have h_668 := gm_pass (k := h) (y := moO h (nI le) bp (nI nr) (nI wh) (nI tl) (nI ne) (nI nf) (nI na) (nI an) (nI tm) (nI cn) (nI cs) (nI bd) (nI lt) (nI (nt + 1)) u1v_491 u2v_492) h_622 (gm_ne h_622 h_494 (fun h => by cases h))
                          have h_669 := gm_pass (k := h) (y := moO h (nI le) bp (nI nr) (nI wh) (nI tl) (nI ne) (nI nf) (nI na) (nI an) (nI tm) (nI cn) (nI cs) (nI bd) (nI lt) (nI (nt + 1)) u1v_491 u2v_492) h_623 (gm_ne h_623 h_494 (fun h => by cases h))
                          have h_670 := gm_pass (k := h) (y := moO h (nI le) bp (nI nr) (nI wh) (nI tl) (nI ne) (nI nf) (nI na) (nI an) (nI tm) (nI cn) (nI cs) (nI bd) (nI lt) (nI (nt + 1)) u1v_491 u2v_492) h_624 (gm_ne h_624 h_494 (fun h => by cases h))
                          have h_671 := gm_pass (k := h) (y := moO h (nI le) bp (nI nr) (nI wh) (nI tl) (nI ne) (nI nf) (nI na) (nI an) (nI tm) (nI cn) (nI cs) (nI bd) (nI lt) (nI (nt + 1)) u1v_491 u2v_492) h_625 (gm_ne h_625 h_494 (fun h => by cases h))
                          have h_672 := gm_pass (k := h) (y := moO h (nI le) bp (nI nr) (nI wh) (nI tl) (nI ne) (nI nf) (nI na) (nI an) (nI tm) (nI cn) (nI cs) (nI bd) (nI lt) (nI (nt + 1)) u1v_491 u2v_492) h_626 (gm_ne h_626 h_494 (fun h => by cases h))
                          have h_673 := gm_pass (k := h) (y := moO h (nI le) bp (nI nr) (nI wh) (nI tl) (nI ne) (nI nf) (nI na) (nI an) (nI tm) (nI cn) (nI cs) (nI bd) (nI lt) (nI (nt + 1)) u1v_491 u2v_492) h_627 (gm_ne h_627 h_494 (fun h => by cases h))
                          have h_674 := gm_pass (k := h) (y := moO h (nI le) bp (nI nr) (nI wh) (nI tl) (nI ne) (nI nf) (nI na) (nI an) (nI tm) (nI cn) (nI cs) (nI bd) (nI lt) (nI (nt + 1)) u1v_491 u2v_492) h_628 (gm_ne h_628 h_494 (fun h => by cases h))
                          have h_675 := gm_pass (k := h) (y := moO h (nI le) bp (nI nr) (nI wh) (nI tl) (nI ne) (nI nf) (nI na) (nI an) (nI tm) (nI cn) (nI cs) (nI bd) (nI lt) (nI (nt + 1)) u1v_491 u2v_492) h_629 (gm_ne h_629 h_494 (fun h => by cases h))
                          have h_676 := gm_pass (k := h) (y := moO h (nI le) bp (nI nr) (nI wh) (nI tl) (nI ne) (nI nf) (nI na) (nI an) (nI tm) (nI cn) (nI cs) (nI bd) (nI lt) (nI (nt + 1)) u1v_491 u2v_492) h_630 (gm_ne h_630 h_494 (fun h => by cases h))
                          have h_677 := gm_pass (k := h) (y := moO h (nI le) bp (nI nr) (nI wh) (nI tl) (nI ne) (nI nf) (nI na) (nI an) (nI tm) (nI cn) (nI cs) (nI bd) (nI lt) (nI (nt + 1)) u1v_491 u2v_492) h_631 (gm_ne h_631 h_494 (fun h => by cases h))
                          have h_678 := gm_pass (k := h) (y := moO h (nI le) bp (nI nr) (nI wh) (nI tl) (nI ne) (nI nf) (nI na) (nI an) (nI tm) (nI cn) (nI cs) (nI bd) (nI lt) (nI (nt + 1)) u1v_491 u2v_492) h_632 (gm_ne h_632 h_494 (fun h => by cases h))
                          have h_679 := gm_pass (k := h) (y := moO h (nI le) bp (nI nr) (nI wh) (nI tl) (nI ne) (nI nf) (nI na) (nI an) (nI tm) (nI cn) (nI cs) (nI bd) (nI lt) (nI (nt + 1)) u1v_491 u2v_492) h_633 (gm_ne h_633 h_494 (fun h => by cases h))
                          have h_680 := gm_up_self M_483 h (moO h (nI le) bp (nI nr) (nI wh) (nI tl) (nI ne) (nI nf) (nI na) (nI an) (nI tm) (nI cn) (nI cs) (nI bd) (nI lt) (nI (nt + 1)) u1v_491 u2v_492)
                          refine W.eq (g2 := F0 m 284 ls [.int (-7)]) rfl ?_
                          rw [← hQ]
                          exact gc_iret hx hb hr hlk hP hS d_Mo_outward_284 ⟨rfl, Or.inr ⟨pr0, f0, (-7), fl, nf, em, cs, lt, (nt + 1), an, mq, u1v_491, u2v_492, ⟨rfl, hpr0⟩, ⟨rfl, hf0⟩, (by unfold outF; rw [if_neg (by omega), c_17]; simp only [hp_478]; rw [if_neg (by omega), if_neg (by omega)]; unfold openO; rw [if_neg (by omega), if_neg (by omega), c_133, c_493]; rfl), hRF, (Or.inr ⟨by decide, rfl, rfl, rfl⟩), h_680, h_670, h_671, h_672, h_673, h_674, h_675, h_676, h_677, h_678, h_679, h_665, (fun z q0 q1 q2 q3 q4 q5 q6 q7 q8 q9 q10 q11 => (gm_up_ne _ _ q0).trans ((hfr_495 z q0).trans (rfl))), rfl⟩⟩
                    · skip
                      refine lv_iload_n hx hb d_Mo_outward_240 rfl (lv_at hl 5 rfl) ?_
                      refine lv_iconst (v := nI 1) hx hb d_Mo_outward_241 (by decide) ?_
                      refine ln_eq (tgt := 252) hx hb d_Mo_outward_242 (by decide) (by omega) (by omega) (fun c_681 => ?_) (fun c_681 => ?_)
                      · skip
                        refine lv_iload hx hb d_Mo_outward_252 (lv_at hl 1 rfl) ?_
                        refine lv_if_ge (tgt := 264) hx hb d_Mo_outward_254 (by decide) (fun q => absurd q (by decide)) (fun _ => ?_)
                        refine lv_aload_n hx hb d_Mo_outward_257 rfl (lv_at hl 3 rfl) ?_
                        refine lv_iload_n hx hb d_Mo_outward_258 rfl (lv_at hl 4 rfl) ?_
                        refine gc_V (q := (R_Mo, F_Mo, 44)) (n := 1) [.int (nI pr0)] [] hx hb hml hown hts hK hN hX hP hS (c_Mo_freePort (pp := pp) (po := po) (pi := pi) (fl := fl) eh m10 m11 m12 m13 m14 m15 m16 m17 m18 m19 m20 m21 m22 m23 hRE (by omega) hpp hpo hpi hRF (by omega) hF (by omega) hpo9) rfl eh k_986 k_988 ks_Mo_freePort k_10 k_989 (by decide +kernel) ⟨by decide, by decide⟩ rfl hl.1 rfl (Nat.le_of_ble_eq_true rfl) d_Mo_outward_259 ⟨by decide, by decide⟩ (fun r N1 M_682 H locs hw hP hS => ?_)
                        obtain ⟨rfl, hw⟩ := hw
                        rcases hw with ⟨vv_683, u1v_684, u2v_685, c_686, c_687, h_688, hfr_689, rfl⟩ | ⟨u1v_690, u2v_691, c_692, h_693, hfr_694, rfl⟩
                        · skip
                          have h_695 := (hfr_689 _ (gm_ne m2 eh (fun h => by cases h))).trans m2
                          have h_696 := (hfr_689 _ (gm_ne m3 eh (fun h => by cases h))).trans m3
                          have h_697 := (hfr_689 _ (gm_ne m4 eh (fun h => by cases h))).trans m4
                          have h_698 := (hfr_689 _ (gm_ne m5 eh (fun h => by cases h))).trans m5
                          have h_699 := (hfr_689 _ (gm_ne m6 eh (fun h => by cases h))).trans m6
                          have h_700 := (hfr_689 _ (gm_ne m26 eh (fun h => by cases h))).trans m26
                          have h_701 := (hfr_689 _ (gm_ne m27 eh (fun h => by cases h))).trans m27
                          have h_702 := (hfr_689 _ (gm_ne m10 eh (fun h => by cases h))).trans m10
                          have h_703 := (hfr_689 _ (gm_ne m11 eh (fun h => by cases h))).trans m11
                          have h_704 := (hfr_689 _ (gm_ne m12 eh (fun h => by cases h))).trans m12
                          have h_705 := (hfr_689 _ (gm_ne m13 eh (fun h => by cases h))).trans m13
                          have h_706 := (hfr_689 _ (gm_ne m14 eh (fun h => by cases h))).trans m14
                          have h_707 := (hfr_689 _ (gm_ne m15 eh (fun h => by cases h))).trans m15
                          have h_708 := (hfr_689 _ (gm_ne m16 eh (fun h => by cases h))).trans m16
                          have h_709 := (hfr_689 _ (gm_ne m17 eh (fun h => by cases h))).trans m17
                          have h_710 := (hfr_689 _ (gm_ne m18 eh (fun h => by cases h))).trans m18
                          have h_711 := (hfr_689 _ (gm_ne m19 eh (fun h => by cases h))).trans m19
                          have h_712 := (hfr_689 _ (gm_ne m20 eh (fun h => by cases h))).trans m20
                          have h_713 := (hfr_689 _ (gm_ne m21 eh (fun h => by cases h))).trans m21
                          have h_714 := (hfr_689 _ (gm_ne m22 eh (fun h => by cases h))).trans m22
                          have h_715 := (hfr_689 _ (gm_ne m23 eh (fun h => by cases h))).trans m23
                          refine W.eq (g2 := F0 m 262 ls [.int (nI vv_683)]) rfl ?_
                          refine lv_istore (lv' := [(4, .int (nI vv_683)), (5, .int (nI av_476)), (3, .int (-1)), (0, .ref h), (1, .int (nI pr0)), (2, .int (nI f0))]) hx hb d_Mo_outward_262 hl (by decide) rfl (fun ls hl => ?_)
                          refine lv_aload_n hx hb d_Mo_outward_264 rfl (lv_at hl 3 rfl) ?_
                          refine gm_get (C := R_Mo) (T := F_Mo) (n := 44) hx hb htl i_Mo hown hK hP h_688 rfl 29 (by decide) (htl _ k_772) (fun _ h => h) rfl d_Mo_outward_265 ?_
                          refine lv_bipush (v := nI 16) hx hb d_Mo_outward_268 (by decide) ?_
                          refine ln_eq (tgt := 278) hx hb d_Mo_outward_270 (by decide) (by omega) (by omega) (fun c_716 => ?_) (fun c_716 => ?_)
                          · skip
                            refine lv_aload_n hx hb d_Mo_outward_278 rfl (lv_at hl 3 rfl) ?_
                            refine lv_bipush (v := (-7)) hx hb d_Mo_outward_279 (by decide) ?_
                            refine gc_V (q := (R_Mo, F_Mo, 44)) (n := 1) [.int (-7)] [] hx hb hml hown hts hK hN hX hP hS (c_Mo_stop (-7) h_688) rfl h_688 k_959 k_961 ks_Mo_stop k_10 k_962 (by decide +kernel) ⟨by decide, by decide⟩ rfl hl.1 rfl (Nat.le_of_ble_eq_true rfl) d_Mo_outward_281 ⟨by decide, by decide⟩ (fun r N1 M_717 H locs hw hP hS => ?_)
                            obtain ⟨rfl, hw⟩ := hw
                            obtain ⟨rfl, rfl⟩ := hw
                            have hP : gm_P D cls A N (gm_up M_682 h (moO h (nI le) bp (nI nr) (nI wh) (nI tl) (nI ne) (nI nf) (nI na) (nI an) (nI tm) (nI cn) (nI cs) (nI bd) (nI lt) (nI (nt + 1)) u1v_684 u2v_685)) H := hP
                            have h_718 := gm_pass (k := h) (y := moO h (nI le) bp (nI nr) (nI wh) (nI tl) (nI ne) (nI nf) (nI na) (nI an) (nI tm) (nI cn) (nI cs) (nI bd) (nI lt) (nI (nt + 1)) u1v_684 u2v_685) h_695 (gm_ne h_695 h_688 (fun h => by cases h))
                            have h_719 := gm_pass (k := h) (y := moO h (nI le) bp (nI nr) (nI wh) (nI tl) (nI ne) (nI nf) (nI na) (nI an) (nI tm) (nI cn) (nI cs) (nI bd) (nI lt) (nI (nt + 1)) u1v_684 u2v_685) h_696 (gm_ne h_696 h_688 (fun h => by cases h))
                            have h_720 := gm_pass (k := h) (y := moO h (nI le) bp (nI nr) (nI wh) (nI tl) (nI ne) (nI nf) (nI na) (nI an) (nI tm) (nI cn) (nI cs) (nI bd) (nI lt) (nI (nt + 1)) u1v_684 u2v_685) h_697 (gm_ne h_697 h_688 (fun h => by cases h))
                            have h_721 := gm_pass (k := h) (y := moO h (nI le) bp (nI nr) (nI wh) (nI tl) (nI ne) (nI nf) (nI na) (nI an) (nI tm) (nI cn) (nI cs) (nI bd) (nI lt) (nI (nt + 1)) u1v_684 u2v_685) h_698 (gm_ne h_698 h_688 (fun h => by cases h))
                            have h_722 := gm_pass (k := h) (y := moO h (nI le) bp (nI nr) (nI wh) (nI tl) (nI ne) (nI nf) (nI na) (nI an) (nI tm) (nI cn) (nI cs) (nI bd) (nI lt) (nI (nt + 1)) u1v_684 u2v_685) h_699 (gm_ne h_699 h_688 (fun h => by cases h))
                            have h_723 := gm_pass (k := h) (y := moO h (nI le) bp (nI nr) (nI wh) (nI tl) (nI ne) (nI nf) (nI na) (nI an) (nI tm) (nI cn) (nI cs) (nI bd) (nI lt) (nI (nt + 1)) u1v_684 u2v_685) h_700 (gm_ne h_700 h_688 (fun h => by cases h))
                            have h_724 := gm_pass (k := h) (y := moO h (nI le) bp (nI nr) (nI wh) (nI tl) (nI ne) (nI nf) (nI na) (nI an) (nI tm) (nI cn) (nI cs) (nI bd) (nI lt) (nI (nt + 1)) u1v_684 u2v_685) h_701 (gm_ne h_701 h_688 (fun h => by cases h))
                            have h_725 := gm_pass (k := h) (y := moO h (nI le) bp (nI nr) (nI wh) (nI tl) (nI ne) (nI nf) (nI na) (nI an) (nI tm) (nI cn) (nI cs) (nI bd) (nI lt) (nI (nt + 1)) u1v_684 u2v_685) h_702 (gm_ne h_702 h_688 (fun h => by cases h))
                            have h_726 := gm_pass (k := h) (y := moO h (nI le) bp (nI nr) (nI wh) (nI tl) (nI ne) (nI nf) (nI na) (nI an) (nI tm) (nI cn) (nI cs) (nI bd) (nI lt) (nI (nt + 1)) u1v_684 u2v_685) h_703 (gm_ne h_703 h_688 (fun h => by cases h))
                            have h_727 := gm_pass (k := h) (y := moO h (nI le) bp (nI nr) (nI wh) (nI tl) (nI ne) (nI nf) (nI na) (nI an) (nI tm) (nI cn) (nI cs) (nI bd) (nI lt) (nI (nt + 1)) u1v_684 u2v_685) h_704 (gm_ne h_704 h_688 (fun h => by cases h))
                            have h_728 := gm_pass (k := h) (y := moO h (nI le) bp (nI nr) (nI wh) (nI tl) (nI ne) (nI nf) (nI na) (nI an) (nI tm) (nI cn) (nI cs) (nI bd) (nI lt) (nI (nt + 1)) u1v_684 u2v_685) h_705 (gm_ne h_705 h_688 (fun h => by cases h))
                            have h_729 := gm_pass (k := h) (y := moO h (nI le) bp (nI nr) (nI wh) (nI tl) (nI ne) (nI nf) (nI na) (nI an) (nI tm) (nI cn) (nI cs) (nI bd) (nI lt) (nI (nt + 1)) u1v_684 u2v_685) h_706 (gm_ne h_706 h_688 (fun h => by cases h))
                            have h_730 := gm_pass (k := h) (y := moO h (nI le) bp (nI nr) (nI wh) (nI tl) (nI ne) (nI nf) (nI na) (nI an) (nI tm) (nI cn) (nI cs) (nI bd) (nI lt) (nI (nt + 1)) u1v_684 u2v_685) h_707 (gm_ne h_707 h_688 (fun h => by cases h))
                            have h_731 := gm_pass (k := h) (y := moO h (nI le) bp (nI nr) (nI wh) (nI tl) (nI ne) (nI nf) (nI na) (nI an) (nI tm) (nI cn) (nI cs) (nI bd) (nI lt) (nI (nt + 1)) u1v_684 u2v_685) h_708 (gm_ne h_708 h_688 (fun h => by cases h))
                            have h_732 := gm_pass (k := h) (y := moO h (nI le) bp (nI nr) (nI wh) (nI tl) (nI ne) (nI nf) (nI na) (nI an) (nI tm) (nI cn) (nI cs) (nI bd) (nI lt) (nI (nt + 1)) u1v_684 u2v_685) h_709 (gm_ne h_709 h_688 (fun h => by cases h))
                            have h_733 := gm_pass (k := h) (y := moO h (nI le) bp (nI nr) (nI wh) (nI tl) (nI ne) (nI nf) (nI na) (nI an) (nI tm) (nI cn) (nI cs) (nI bd) (nI lt) (nI (nt + 1)) u1v_684 u2v_685) h_710 (gm_ne h_710 h_688 (fun h => by cases h))
                            have h_734 := gm_pass (k := h) (y := moO h (nI le) bp (nI nr) (nI wh) (nI tl) (nI ne) (nI nf) (nI na) (nI an) (nI tm) (nI cn) (nI cs) (nI bd) (nI lt) (nI (nt + 1)) u1v_684 u2v_685) h_711 (gm_ne h_711 h_688 (fun h => by cases h))
                            have h_735 := gm_pass (k := h) (y := moO h (nI le) bp (nI nr) (nI wh) (nI tl) (nI ne) (nI nf) (nI na) (nI an) (nI tm) (nI cn) (nI cs) (nI bd) (nI lt) (nI (nt + 1)) u1v_684 u2v_685) h_712 (gm_ne h_712 h_688 (fun h => by cases h))
                            have h_736 := gm_pass (k := h) (y := moO h (nI le) bp (nI nr) (nI wh) (nI tl) (nI ne) (nI nf) (nI na) (nI an) (nI tm) (nI cn) (nI cs) (nI bd) (nI lt) (nI (nt + 1)) u1v_684 u2v_685) h_713 (gm_ne h_713 h_688 (fun h => by cases h))
                            have h_737 := gm_pass (k := h) (y := moO h (nI le) bp (nI nr) (nI wh) (nI tl) (nI ne) (nI nf) (nI na) (nI an) (nI tm) (nI cn) (nI cs) (nI bd) (nI lt) (nI (nt + 1)) u1v_684 u2v_685) h_714 (gm_ne h_714 h_688 (fun h => by cases h))
                            have h_738 := gm_pass (k := h) (y := moO h (nI le) bp (nI nr) (nI wh) (nI tl) (nI ne) (nI nf) (nI na) (nI an) (nI tm) (nI cn) (nI cs) (nI bd) (nI lt) (nI (nt + 1)) u1v_684 u2v_685) h_715 (gm_ne h_715 h_688 (fun h => by cases h))
                            have h_739 := gm_up_self M_682 h (moO h (nI le) bp (nI nr) (nI wh) (nI tl) (nI ne) (nI nf) (nI na) (nI an) (nI tm) (nI cn) (nI cs) (nI bd) (nI lt) (nI (nt + 1)) u1v_684 u2v_685)
                            refine W.eq (g2 := F0 m 284 ls [.int (-7)]) rfl ?_
                            rw [← hQ]
                            exact gc_iret hx hb hr hlk hP hS d_Mo_outward_284 ⟨rfl, Or.inr ⟨pr0, f0, (-7), fl, nf, em, cs, lt, (nt + 1), an, mq, u1v_684, u2v_685, ⟨rfl, hpr0⟩, ⟨rfl, hf0⟩, (by unfold outF; rw [if_neg (by omega), c_17]; simp only [hp_478]; rw [if_neg (by omega), if_neg (by omega)]; unfold openO; rw [if_neg (by omega), if_pos (by omega)]), hRF, (Or.inr ⟨by decide, rfl, rfl, rfl⟩), h_739, h_729, h_730, h_731, h_732, h_733, h_734, h_735, h_736, h_737, h_738, h_724, (fun z q0 q1 q2 q3 q4 q5 q6 q7 q8 q9 q10 q11 => (gm_up_ne _ _ q0).trans ((hfr_689 z q0).trans (rfl))), rfl⟩⟩
                          · skip
                            refine lv_iload hx hb d_Mo_outward_273 (lv_at hl 0 rfl) ?_
                            refine lz_ge (tgt := 285) hx hb d_Mo_outward_275 (by decide) (by omega) ?_
                            refine lv_aload_n hx hb d_Mo_outward_285 rfl (lv_at hl 3 rfl) ?_
                            refine lv_iload_n hx hb d_Mo_outward_286 rfl (lv_at hl 4 rfl) ?_
                            refine lv_iconst (v := nI 0) hx hb d_Mo_outward_287 (by decide) ?_
                            refine lv_aload_n hx hb d_Mo_outward_288 rfl (lv_at hl 3 rfl) ?_
                            refine gm_get (C := R_Mo) (T := F_Mo) (n := 44) hx hb htl i_Mo hown hK hP h_688 rfl 33 (by decide) (htl _ k_776) (fun _ h => h) rfl d_Mo_outward_289 ?_
                            refine lv_iconst (v := nI 0) hx hb d_Mo_outward_292 (by decide) ?_
                            refine gz_iald hx hb hK hP 0 h_700 rfl (by omega) (by omega) d_Mo_outward_293 ?_
                            rw [show hd 0 = so / 256 from hhd.1]
                            refine lv_aload_n hx hb d_Mo_outward_294 rfl (lv_at hl 3 rfl) ?_
                            refine gm_get (C := R_Mo) (T := F_Mo) (n := 44) hx hb htl i_Mo hown hK hP h_688 rfl 33 (by decide) (htl _ k_776) (fun _ h => h) rfl d_Mo_outward_295 ?_
                            refine lv_iconst (v := nI 1) hx hb d_Mo_outward_298 (by decide) ?_
                            refine gz_iald hx hb hK hP 0 h_700 rfl (by omega) (by omega) d_Mo_outward_299 ?_
                            rw [show hd 1 = so % 256 from hhd.2.1]
                            refine lv_aload_n hx hb d_Mo_outward_300 rfl (lv_at hl 3 rfl) ?_
                            refine gm_get (C := R_Mo) (T := F_Mo) (n := 44) hx hb htl i_Mo hown hK hP h_688 rfl 33 (by decide) (htl _ k_776) (fun _ h => h) rfl d_Mo_outward_301 ?_
                            refine lv_iconst (v := nI 2) hx hb d_Mo_outward_304 (by decide) ?_
                            refine gz_iald hx hb hK hP 0 h_700 rfl (by omega) (by omega) d_Mo_outward_305 ?_
                            rw [show hd 2 = ta / 256 from hhd.2.2.1]
                            refine lv_aload_n hx hb d_Mo_outward_306 rfl (lv_at hl 3 rfl) ?_
                            refine gm_get (C := R_Mo) (T := F_Mo) (n := 44) hx hb htl i_Mo hown hK hP h_688 rfl 33 (by decide) (htl _ k_776) (fun _ h => h) rfl d_Mo_outward_307 ?_
                            refine lv_iconst (v := nI 3) hx hb d_Mo_outward_310 (by decide) ?_
                            refine gz_iald hx hb hK hP 0 h_700 rfl (by omega) (by omega) d_Mo_outward_311 ?_
                            rw [show hd 3 = ta % 256 from hhd.2.2.2]
                            refine lv_iload hx hb d_Mo_outward_312 (lv_at hl 0 rfl) ?_
                            refine gc_V (q := (R_Mo, F_Mo, 44)) (n := 7) [.int (nI pr0), .int (nI 0), .int (nI (so / 256)), .int (nI (so % 256)), .int (nI (ta / 256)), .int (nI (ta % 256)), .int (nI vv_683)] [] hx hb hml hown hts hK hN hX hP hS (c_Mo_openFlow (fl := fl) (i0 := so) (o0 := ta) h_688 h_706 h_707 h_708 h_709 h_710 h_711 h_712 h_713 h_714 h_715 hRF (by omega) hF (by omega) (by omega) (by omega) (by omega)) rfl h_688 k_990 k_992 ks_Mo_openFlow k_10 k_993 (by decide +kernel) ⟨by decide, by decide⟩ rfl hl.1 rfl (Nat.le_of_ble_eq_true rfl) d_Mo_outward_314 ⟨by decide, by decide⟩ (fun r N1 M_741 H locs hw hP hS => ?_)
                            obtain ⟨rfl, hw⟩ := hw
                            obtain ⟨mq1v_742, c_743, h_744, h_745, h_746, h_747, h_748, h_749, h_750, h_751, h_752, h_753, h_754, hfr_755⟩ := hw
                            have h_756 := (hfr_755 _ (gm_ne h_695 h_688 (fun h => by cases h)) (by omega) (by omega) (by omega) (by omega) (by omega) (by omega) (by omega) (by omega) (by omega) (by omega)).trans h_695
                            have h_757 := (hfr_755 _ (gm_ne h_696 h_688 (fun h => by cases h)) (by omega) (by omega) (by omega) (by omega) (by omega) (by omega) (by omega) (by omega) (by omega) (by omega)).trans h_696
                            have h_758 := (hfr_755 _ (gm_ne h_697 h_688 (fun h => by cases h)) (by omega) (by omega) (by omega) (by omega) (by omega) (by omega) (by omega) (by omega) (by omega) (by omega)).trans h_697
                            have h_759 := (hfr_755 _ (gm_ne h_698 h_688 (fun h => by cases h)) (gm_ne h_698 h_706 (fun h => by simp at h)) (gm_ne h_698 h_707 (fun h => by simp at h)) (gm_ne h_698 h_708 (fun h => by simp at h)) (gm_ne h_698 h_709 (fun h => by simp at h)) (gm_ne h_698 h_710 (fun h => by simp at h)) (gm_ne h_698 h_711 (fun h => by simp at h)) (gm_ne h_698 h_712 (fun h => by simp at h)) (gm_ne h_698 h_713 (fun h => by simp at h)) (gm_ne h_698 h_714 (fun h => by simp at h)) (gm_ne h_698 h_715 (fun h => by simp at h))).trans h_698
                            have h_760 := (hfr_755 _ (gm_ne h_699 h_688 (fun h => by cases h)) (gm_ne h_699 h_706 (fun h => by simp at h)) (gm_ne h_699 h_707 (fun h => by simp at h)) (gm_ne h_699 h_708 (fun h => by simp at h)) (gm_ne h_699 h_709 (fun h => by simp at h)) (gm_ne h_699 h_710 (fun h => by simp at h)) (gm_ne h_699 h_711 (fun h => by simp at h)) (gm_ne h_699 h_712 (fun h => by simp at h)) (gm_ne h_699 h_713 (fun h => by simp at h)) (gm_ne h_699 h_714 (fun h => by simp at h)) (gm_ne h_699 h_715 (fun h => by simp at h))).trans h_699
                            have h_761 := (hfr_755 _ (gm_ne h_700 h_688 (fun h => by cases h)) (gm_ne h_700 h_706 (fun h => by simp at h)) (gm_ne h_700 h_707 (fun h => by simp at h)) (gm_ne h_700 h_708 (fun h => by simp at h)) (gm_ne h_700 h_709 (fun h => by simp at h)) (gm_ne h_700 h_710 (fun h => by simp at h)) (gm_ne h_700 h_711 (fun h => by simp at h)) (gm_ne h_700 h_712 (fun h => by simp at h)) (gm_ne h_700 h_713 (fun h => by simp at h)) (gm_ne h_700 h_714 (fun h => by simp at h)) (gm_ne h_700 h_715 (fun h => by simp at h))).trans h_700
                            have h_762 := (hfr_755 _ (gm_ne h_701 h_688 (fun h => by cases h)) (gm_ne h_701 h_706 (fun h => by simp at h)) (gm_ne h_701 h_707 (fun h => by simp at h)) (gm_ne h_701 h_708 (fun h => by simp at h)) (gm_ne h_701 h_709 (fun h => by simp at h)) (gm_ne h_701 h_710 (fun h => by simp at h)) (gm_ne h_701 h_711 (fun h => by simp at h)) (gm_ne h_701 h_712 (fun h => by simp at h)) (gm_ne h_701 h_713 (fun h => by simp at h)) (gm_ne h_701 h_714 (fun h => by simp at h)) (gm_ne h_701 h_715 (fun h => by simp at h))).trans h_701
                            have h_763 := (hfr_755 _ (gm_ne h_702 h_688 (fun h => by cases h)) (gm_ne h_702 h_706 (fun h => by simp at h)) (gm_ne h_702 h_707 (fun h => by simp at h)) (gm_ne h_702 h_708 (fun h => by simp at h)) (gm_ne h_702 h_709 (fun h => by simp at h)) (gm_ne h_702 h_710 (fun h => by simp at h)) (gm_ne h_702 h_711 (fun h => by simp at h)) (gm_ne h_702 h_712 (fun h => by simp at h)) (gm_ne h_702 h_713 (fun h => by simp at h)) (gm_ne h_702 h_714 (fun h => by simp at h)) (gm_ne h_702 h_715 (fun h => by simp at h))).trans h_702
                            have h_764 := (hfr_755 _ (gm_ne h_703 h_688 (fun h => by cases h)) (gm_ne h_703 h_706 (fun h => by simp at h)) (gm_ne h_703 h_707 (fun h => by simp at h)) (gm_ne h_703 h_708 (fun h => by simp at h)) (gm_ne h_703 h_709 (fun h => by simp at h)) (gm_ne h_703 h_710 (fun h => by simp at h)) (gm_ne h_703 h_711 (fun h => by simp at h)) (gm_ne h_703 h_712 (fun h => by simp at h)) (gm_ne h_703 h_713 (fun h => by simp at h)) (gm_ne h_703 h_714 (fun h => by simp at h)) (gm_ne h_703 h_715 (fun h => by simp at h))).trans h_703
                            have h_765 := (hfr_755 _ (gm_ne h_704 h_688 (fun h => by cases h)) (gm_ne h_704 h_706 (fun h => by simp at h)) (gm_ne h_704 h_707 (fun h => by simp at h)) (gm_ne h_704 h_708 (fun h => by simp at h)) (gm_ne h_704 h_709 (fun h => by simp at h)) (gm_ne h_704 h_710 (fun h => by simp at h)) (gm_ne h_704 h_711 (fun h => by simp at h)) (gm_ne h_704 h_712 (fun h => by simp at h)) (gm_ne h_704 h_713 (fun h => by simp at h)) (gm_ne h_704 h_714 (fun h => by simp at h)) (gm_ne h_704 h_715 (fun h => by simp at h))).trans h_704
                            have h_766 := (hfr_755 _ (gm_ne h_705 h_688 (fun h => by cases h)) (gm_ne h_705 h_706 (fun h => by simp at h)) (gm_ne h_705 h_707 (fun h => by simp at h)) (gm_ne h_705 h_708 (fun h => by simp at h)) (gm_ne h_705 h_709 (fun h => by simp at h)) (gm_ne h_705 h_710 (fun h => by simp at h)) (gm_ne h_705 h_711 (fun h => by simp at h)) (gm_ne h_705 h_712 (fun h => by simp at h)) (gm_ne h_705 h_713 (fun h => by simp at h)) (gm_ne h_705 h_714 (fun h => by simp at h)) (gm_ne h_705 h_715 (fun h => by simp at h))).trans h_705
                            refine W.eq (g2 := F0 m 317 ls []) rfl ?_
                            refine lv_aload_n hx hb d_Mo_outward_317 rfl (lv_at hl 3 rfl) ?_
                            refine lv_iconst (v := nI 0) hx hb d_Mo_outward_318 (by decide) ?_
                            refine lv_sipush (v := nI 200) hx hb d_Mo_outward_319 (by decide) ?_
                            refine lv_iload hx hb d_Mo_outward_322 (lv_at hl 0 rfl) ?_
                            refine lv_aload_n hx hb d_Mo_outward_324 rfl (lv_at hl 3 rfl) ?_
                            refine gm_get (C := R_Mo) (T := F_Mo) (n := 44) hx hb htl i_Mo hown hK hP h_744 rfl 33 (by decide) (htl _ k_776) (fun _ h => h) rfl d_Mo_outward_325 ?_
                            refine lv_iconst (v := nI 2) hx hb d_Mo_outward_328 (by decide) ?_
                            refine gz_iald hx hb hK hP 0 h_761 rfl (by omega) (by omega) d_Mo_outward_329 ?_
                            rw [show hd 2 = ta / 256 from hhd.2.2.1]
                            refine lv_aload_n hx hb d_Mo_outward_330 rfl (lv_at hl 3 rfl) ?_
                            refine gm_get (C := R_Mo) (T := F_Mo) (n := 44) hx hb htl i_Mo hown hK hP h_744 rfl 33 (by decide) (htl _ k_776) (fun _ h => h) rfl d_Mo_outward_331 ?_
                            refine lv_iconst (v := nI 3) hx hb d_Mo_outward_334 (by decide) ?_
                            refine gz_iald hx hb hK hP 0 h_761 rfl (by omega) (by omega) d_Mo_outward_335 ?_
                            rw [show hd 3 = ta % 256 from hhd.2.2.2]
                            refine gc_V (q := (R_Mo, F_Mo, 44)) (n := 5) [.int (nI 0), .int (nI 200), .int (nI vv_683), .int (nI (ta / 256)), .int (nI (ta % 256))] [] hx hb hml hown hts hK hN hX hP hS (c_Mo_emit (nI 0) h_744 h_762) rfl h_744 k_975 k_977 ks_Mo_emit k_10 k_978 (by decide +kernel) ⟨by decide, by decide⟩ rfl hl.1 rfl (Nat.le_of_ble_eq_true rfl) d_Mo_outward_336 ⟨by decide, by decide⟩ (fun r N1 M_767 H locs hw hP hS => ?_)
                            obtain ⟨rfl, hw⟩ := hw
                            obtain ⟨rfl, rfl⟩ := hw
                            have h_768 := gm_pass (k := (h + 27)) (y := .inl (ca 0, 4, .inl (iN (eUp em 200 vv_683 (ta / 256) (ta % 256))))) h_756 (gm_ne h_756 h_762 (fun h => by simp at h))
                            have h_769 := gm_pass (k := (h + 27)) (y := .inl (ca 0, 4, .inl (iN (eUp em 200 vv_683 (ta / 256) (ta % 256))))) h_757 (gm_ne h_757 h_762 (fun h => by simp at h))
                            have h_770 := gm_pass (k := (h + 27)) (y := .inl (ca 0, 4, .inl (iN (eUp em 200 vv_683 (ta / 256) (ta % 256))))) h_758 (gm_ne h_758 h_762 (fun h => by simp at h))
                            have h_771 := gm_pass (k := (h + 27)) (y := .inl (ca 0, 4, .inl (iN (eUp em 200 vv_683 (ta / 256) (ta % 256))))) h_759 (gm_ne h_759 h_762 (fun h => by simp at h))
                            have h_772 := gm_pass (k := (h + 27)) (y := .inl (ca 0, 4, .inl (iN (eUp em 200 vv_683 (ta / 256) (ta % 256))))) h_760 (gm_ne h_760 h_762 (fun h => by simp at h))
                            have h_773 := gm_pass (k := (h + 27)) (y := .inl (ca 0, 4, .inl (iN (eUp em 200 vv_683 (ta / 256) (ta % 256))))) h_761 (by omega)
                            have h_774 := gm_pass (k := (h + 27)) (y := .inl (ca 0, 4, .inl (iN (eUp em 200 vv_683 (ta / 256) (ta % 256))))) h_763 (gm_ne h_763 h_762 (fun h => by simp at h))
                            have h_775 := gm_pass (k := (h + 27)) (y := .inl (ca 0, 4, .inl (iN (eUp em 200 vv_683 (ta / 256) (ta % 256))))) h_764 (gm_ne h_764 h_762 (fun h => by simp at h))
                            have h_776 := gm_pass (k := (h + 27)) (y := .inl (ca 0, 4, .inl (iN (eUp em 200 vv_683 (ta / 256) (ta % 256))))) h_765 (gm_ne h_765 h_762 (fun h => by simp at h))
                            have h_777 := gm_pass (k := (h + 27)) (y := .inl (ca 0, 4, .inl (iN (eUp em 200 vv_683 (ta / 256) (ta % 256))))) h_766 (gm_ne h_766 h_762 (fun h => by simp at h))
                            have h_778 := gm_pass (k := (h + 27)) (y := .inl (ca 0, 4, .inl (iN (eUp em 200 vv_683 (ta / 256) (ta % 256))))) h_744 (gm_ne h_744 h_762 (fun h => by cases h))
                            have h_779 := gm_pass (k := (h + 27)) (y := .inl (ca 0, 4, .inl (iN (eUp em 200 vv_683 (ta / 256) (ta % 256))))) h_745 (gm_ne h_745 h_762 (fun h => by simp at h))
                            have h_780 := gm_pass (k := (h + 27)) (y := .inl (ca 0, 4, .inl (iN (eUp em 200 vv_683 (ta / 256) (ta % 256))))) h_746 (gm_ne h_746 h_762 (fun h => by simp at h))
                            have h_781 := gm_pass (k := (h + 27)) (y := .inl (ca 0, 4, .inl (iN (eUp em 200 vv_683 (ta / 256) (ta % 256))))) h_747 (gm_ne h_747 h_762 (fun h => by simp at h))
                            have h_782 := gm_pass (k := (h + 27)) (y := .inl (ca 0, 4, .inl (iN (eUp em 200 vv_683 (ta / 256) (ta % 256))))) h_748 (gm_ne h_748 h_762 (fun h => by simp at h))
                            have h_783 := gm_pass (k := (h + 27)) (y := .inl (ca 0, 4, .inl (iN (eUp em 200 vv_683 (ta / 256) (ta % 256))))) h_749 (gm_ne h_749 h_762 (fun h => by simp at h))
                            have h_784 := gm_pass (k := (h + 27)) (y := .inl (ca 0, 4, .inl (iN (eUp em 200 vv_683 (ta / 256) (ta % 256))))) h_750 (gm_ne h_750 h_762 (fun h => by simp at h))
                            have h_785 := gm_pass (k := (h + 27)) (y := .inl (ca 0, 4, .inl (iN (eUp em 200 vv_683 (ta / 256) (ta % 256))))) h_751 (gm_ne h_751 h_762 (fun h => by simp at h))
                            have h_786 := gm_pass (k := (h + 27)) (y := .inl (ca 0, 4, .inl (iN (eUp em 200 vv_683 (ta / 256) (ta % 256))))) h_752 (gm_ne h_752 h_762 (fun h => by simp at h))
                            have h_787 := gm_pass (k := (h + 27)) (y := .inl (ca 0, 4, .inl (iN (eUp em 200 vv_683 (ta / 256) (ta % 256))))) h_753 (gm_ne h_753 h_762 (fun h => by simp at h))
                            have h_788 := gm_pass (k := (h + 27)) (y := .inl (ca 0, 4, .inl (iN (eUp em 200 vv_683 (ta / 256) (ta % 256))))) h_754 (gm_ne h_754 h_762 (fun h => by simp at h))
                            have h_789 := gm_up_self M_741 (h + 27) (.inl (ca 0, 4, .inl (iN (eUp em 200 vv_683 (ta / 256) (ta % 256)))))
                            have hP : gm_P D cls A N (gm_up (gm_up M_741 (h + 27) (.inl (ca 0, 4, .inl (iN (eUp em 200 vv_683 (ta / 256) (ta % 256)))))) h (moO h (nI le) bp (nI nr) (nI wh) (nI tl) (nI ne) (nI (nf + 1)) (nI na) (nI 1) (nI tm) (nI cn) (nI cs) (nI bd) (nI (lt + 1)) (nI nt) u1v_684 u2v_685)) H := hP
                            have h_790 := gm_pass (k := h) (y := moO h (nI le) bp (nI nr) (nI wh) (nI tl) (nI ne) (nI (nf + 1)) (nI na) (nI 1) (nI tm) (nI cn) (nI cs) (nI bd) (nI (lt + 1)) (nI nt) u1v_684 u2v_685) h_768 (gm_ne h_768 h_778 (fun h => by cases h))
                            have h_791 := gm_pass (k := h) (y := moO h (nI le) bp (nI nr) (nI wh) (nI tl) (nI ne) (nI (nf + 1)) (nI na) (nI 1) (nI tm) (nI cn) (nI cs) (nI bd) (nI (lt + 1)) (nI nt) u1v_684 u2v_685) h_769 (gm_ne h_769 h_778 (fun h => by cases h))
                            have h_792 := gm_pass (k := h) (y := moO h (nI le) bp (nI nr) (nI wh) (nI tl) (nI ne) (nI (nf + 1)) (nI na) (nI 1) (nI tm) (nI cn) (nI cs) (nI bd) (nI (lt + 1)) (nI nt) u1v_684 u2v_685) h_770 (gm_ne h_770 h_778 (fun h => by cases h))
                            have h_793 := gm_pass (k := h) (y := moO h (nI le) bp (nI nr) (nI wh) (nI tl) (nI ne) (nI (nf + 1)) (nI na) (nI 1) (nI tm) (nI cn) (nI cs) (nI bd) (nI (lt + 1)) (nI nt) u1v_684 u2v_685) h_771 (gm_ne h_771 h_778 (fun h => by cases h))
                            have h_794 := gm_pass (k := h) (y := moO h (nI le) bp (nI nr) (nI wh) (nI tl) (nI ne) (nI (nf + 1)) (nI na) (nI 1) (nI tm) (nI cn) (nI cs) (nI bd) (nI (lt + 1)) (nI nt) u1v_684 u2v_685) h_772 (gm_ne h_772 h_778 (fun h => by cases h))
                            have h_795 := gm_pass (k := h) (y := moO h (nI le) bp (nI nr) (nI wh) (nI tl) (nI ne) (nI (nf + 1)) (nI na) (nI 1) (nI tm) (nI cn) (nI cs) (nI bd) (nI (lt + 1)) (nI nt) u1v_684 u2v_685) h_773 (gm_ne h_773 h_778 (fun h => by cases h))
                            have h_796 := gm_pass (k := h) (y := moO h (nI le) bp (nI nr) (nI wh) (nI tl) (nI ne) (nI (nf + 1)) (nI na) (nI 1) (nI tm) (nI cn) (nI cs) (nI bd) (nI (lt + 1)) (nI nt) u1v_684 u2v_685) h_774 (gm_ne h_774 h_778 (fun h => by cases h))
                            have h_797 := gm_pass (k := h) (y := moO h (nI le) bp (nI nr) (nI wh) (nI tl) (nI ne) (nI (nf + 1)) (nI na) (nI 1) (nI tm) (nI cn) (nI cs) (nI bd) (nI (lt + 1)) (nI nt) u1v_684 u2v_685) h_775 (gm_ne h_775 h_778 (fun h => by cases h))
                            have h_798 := gm_pass (k := h) (y := moO h (nI le) bp (nI nr) (nI wh) (nI tl) (nI ne) (nI (nf + 1)) (nI na) (nI 1) (nI tm) (nI cn) (nI cs) (nI bd) (nI (lt + 1)) (nI nt) u1v_684 u2v_685) h_776 (gm_ne h_776 h_778 (fun h => by cases h))
                            have h_799 := gm_pass (k := h) (y := moO h (nI le) bp (nI nr) (nI wh) (nI tl) (nI ne) (nI (nf + 1)) (nI na) (nI 1) (nI tm) (nI cn) (nI cs) (nI bd) (nI (lt + 1)) (nI nt) u1v_684 u2v_685) h_777 (gm_ne h_777 h_778 (fun h => by cases h))
                            have h_800 := gm_pass (k := h) (y := moO h (nI le) bp (nI nr) (nI wh) (nI tl) (nI ne) (nI (nf + 1)) (nI na) (nI 1) (nI tm) (nI cn) (nI cs) (nI bd) (nI (lt + 1)) (nI nt) u1v_684 u2v_685) h_779 (gm_ne h_779 h_778 (fun h => by cases h))
                            have h_801 := gm_pass (k := h) (y := moO h (nI le) bp (nI nr) (nI wh) (nI tl) (nI ne) (nI (nf + 1)) (nI na) (nI 1) (nI tm) (nI cn) (nI cs) (nI bd) (nI (lt + 1)) (nI nt) u1v_684 u2v_685) h_780 (gm_ne h_780 h_778 (fun h => by cases h))
                            have h_802 := gm_pass (k := h) (y := moO h (nI le) bp (nI nr) (nI wh) (nI tl) (nI ne) (nI (nf + 1)) (nI na) (nI 1) (nI tm) (nI cn) (nI cs) (nI bd) (nI (lt + 1)) (nI nt) u1v_684 u2v_685) h_781 (gm_ne h_781 h_778 (fun h => by cases h))
                            have h_803 := gm_pass (k := h) (y := moO h (nI le) bp (nI nr) (nI wh) (nI tl) (nI ne) (nI (nf + 1)) (nI na) (nI 1) (nI tm) (nI cn) (nI cs) (nI bd) (nI (lt + 1)) (nI nt) u1v_684 u2v_685) h_782 (gm_ne h_782 h_778 (fun h => by cases h))
                            have h_804 := gm_pass (k := h) (y := moO h (nI le) bp (nI nr) (nI wh) (nI tl) (nI ne) (nI (nf + 1)) (nI na) (nI 1) (nI tm) (nI cn) (nI cs) (nI bd) (nI (lt + 1)) (nI nt) u1v_684 u2v_685) h_783 (gm_ne h_783 h_778 (fun h => by cases h))
                            have h_805 := gm_pass (k := h) (y := moO h (nI le) bp (nI nr) (nI wh) (nI tl) (nI ne) (nI (nf + 1)) (nI na) (nI 1) (nI tm) (nI cn) (nI cs) (nI bd) (nI (lt + 1)) (nI nt) u1v_684 u2v_685) h_784 (gm_ne h_784 h_778 (fun h => by cases h))
                            have h_806 := gm_pass (k := h) (y := moO h (nI le) bp (nI nr) (nI wh) (nI tl) (nI ne) (nI (nf + 1)) (nI na) (nI 1) (nI tm) (nI cn) (nI cs) (nI bd) (nI (lt + 1)) (nI nt) u1v_684 u2v_685) h_785 (gm_ne h_785 h_778 (fun h => by cases h))
                            have h_807 := gm_pass (k := h) (y := moO h (nI le) bp (nI nr) (nI wh) (nI tl) (nI ne) (nI (nf + 1)) (nI na) (nI 1) (nI tm) (nI cn) (nI cs) (nI bd) (nI (lt + 1)) (nI nt) u1v_684 u2v_685) h_786 (gm_ne h_786 h_778 (fun h => by cases h))
                            have h_808 := gm_pass (k := h) (y := moO h (nI le) bp (nI nr) (nI wh) (nI tl) (nI ne) (nI (nf + 1)) (nI na) (nI 1) (nI tm) (nI cn) (nI cs) (nI bd) (nI (lt + 1)) (nI nt) u1v_684 u2v_685) h_787 (gm_ne h_787 h_778 (fun h => by cases h))
                            have h_809 := gm_pass (k := h) (y := moO h (nI le) bp (nI nr) (nI wh) (nI tl) (nI ne) (nI (nf + 1)) (nI na) (nI 1) (nI tm) (nI cn) (nI cs) (nI bd) (nI (lt + 1)) (nI nt) u1v_684 u2v_685) h_788 (gm_ne h_788 h_778 (fun h => by cases h))
                            have h_810 := gm_pass (k := h) (y := moO h (nI le) bp (nI nr) (nI wh) (nI tl) (nI ne) (nI (nf + 1)) (nI na) (nI 1) (nI tm) (nI cn) (nI cs) (nI bd) (nI (lt + 1)) (nI nt) u1v_684 u2v_685) h_789 (gm_ne h_789 h_778 (fun h => by cases h))
                            have h_811 := gm_up_self (gm_up M_741 (h + 27) (.inl (ca 0, 4, .inl (iN (eUp em 200 vv_683 (ta / 256) (ta % 256)))))) h (moO h (nI le) bp (nI nr) (nI wh) (nI tl) (nI ne) (nI (nf + 1)) (nI na) (nI 1) (nI tm) (nI cn) (nI cs) (nI bd) (nI (lt + 1)) (nI nt) u1v_684 u2v_685)
                            refine W.eq (g2 := F0 m 339 ls [.int (nI 0)]) rfl ?_
                            rw [← hQ]
                            exact gc_iret hx hb hr hlk hP hS d_Mo_outward_339 ⟨rfl, Or.inr ⟨pr0, f0, (nI 0), _, (nf + 1), (eUp em 200 vv_683 (ta / 256) (ta % 256)), cs, (lt + 1), nt, 1, mq1v_742, u1v_684, u2v_685, ⟨rfl, hpr0⟩, ⟨rfl, hf0⟩, (by unfold outF; rw [if_neg (by omega), c_17]; simp only [hp_478]; rw [if_neg (by omega), if_neg (by omega)]; unfold openO; rw [if_neg (by omega), if_neg (by omega), c_133, c_686]; rfl), c_743, (Or.inl ⟨by decide, rfl, rfl, rfl⟩), h_811, h_800, h_801, h_802, h_803, h_804, h_805, h_806, h_807, h_808, h_809, h_810, (fun z q0 q1 q2 q3 q4 q5 q6 q7 q8 q9 q10 q11 => (gm_up_ne _ _ q0).trans ((gm_up_ne _ _ q11).trans ((hfr_755 z q0 q1 q2 q3 q4 q5 q6 q7 q8 q9 q10).trans ((hfr_689 z q0).trans (rfl))))), rfl⟩⟩
                        · skip
                          have h_812 := (hfr_694 _ (gm_ne m2 eh (fun h => by cases h))).trans m2
                          have h_813 := (hfr_694 _ (gm_ne m3 eh (fun h => by cases h))).trans m3
                          have h_814 := (hfr_694 _ (gm_ne m4 eh (fun h => by cases h))).trans m4
                          have h_815 := (hfr_694 _ (gm_ne m5 eh (fun h => by cases h))).trans m5
                          have h_816 := (hfr_694 _ (gm_ne m6 eh (fun h => by cases h))).trans m6
                          have h_817 := (hfr_694 _ (gm_ne m26 eh (fun h => by cases h))).trans m26
                          have h_818 := (hfr_694 _ (gm_ne m27 eh (fun h => by cases h))).trans m27
                          have h_819 := (hfr_694 _ (gm_ne m10 eh (fun h => by cases h))).trans m10
                          have h_820 := (hfr_694 _ (gm_ne m11 eh (fun h => by cases h))).trans m11
                          have h_821 := (hfr_694 _ (gm_ne m12 eh (fun h => by cases h))).trans m12
                          have h_822 := (hfr_694 _ (gm_ne m13 eh (fun h => by cases h))).trans m13
                          have h_823 := (hfr_694 _ (gm_ne m14 eh (fun h => by cases h))).trans m14
                          have h_824 := (hfr_694 _ (gm_ne m15 eh (fun h => by cases h))).trans m15
                          have h_825 := (hfr_694 _ (gm_ne m16 eh (fun h => by cases h))).trans m16
                          have h_826 := (hfr_694 _ (gm_ne m17 eh (fun h => by cases h))).trans m17
                          have h_827 := (hfr_694 _ (gm_ne m18 eh (fun h => by cases h))).trans m18
                          have h_828 := (hfr_694 _ (gm_ne m19 eh (fun h => by cases h))).trans m19
                          have h_829 := (hfr_694 _ (gm_ne m20 eh (fun h => by cases h))).trans m20
                          have h_830 := (hfr_694 _ (gm_ne m21 eh (fun h => by cases h))).trans m21
                          have h_831 := (hfr_694 _ (gm_ne m22 eh (fun h => by cases h))).trans m22
                          have h_832 := (hfr_694 _ (gm_ne m23 eh (fun h => by cases h))).trans m23
                          refine W.eq (g2 := F0 m 262 ls [.int (-1)]) rfl ?_
                          refine lv_istore (lv' := [(4, .int (-1)), (5, .int (nI av_476)), (3, .int (-1)), (0, .ref h), (1, .int (nI pr0)), (2, .int (nI f0))]) hx hb d_Mo_outward_262 hl (by decide) rfl (fun ls hl => ?_)
                          refine lv_aload_n hx hb d_Mo_outward_264 rfl (lv_at hl 3 rfl) ?_
                          refine gm_get (C := R_Mo) (T := F_Mo) (n := 44) hx hb htl i_Mo hown hK hP h_693 rfl 29 (by decide) (htl _ k_772) (fun _ h => h) rfl d_Mo_outward_265 ?_
                          refine lv_bipush (v := nI 16) hx hb d_Mo_outward_268 (by decide) ?_
                          refine ln_eq (tgt := 278) hx hb d_Mo_outward_270 (by decide) (by omega) (by omega) (fun c_833 => ?_) (fun c_833 => ?_)
                          · skip
                            refine lv_aload_n hx hb d_Mo_outward_278 rfl (lv_at hl 3 rfl) ?_
                            refine lv_bipush (v := (-7)) hx hb d_Mo_outward_279 (by decide) ?_
                            refine gc_V (q := (R_Mo, F_Mo, 44)) (n := 1) [.int (-7)] [] hx hb hml hown hts hK hN hX hP hS (c_Mo_stop (-7) h_693) rfl h_693 k_959 k_961 ks_Mo_stop k_10 k_962 (by decide +kernel) ⟨by decide, by decide⟩ rfl hl.1 rfl (Nat.le_of_ble_eq_true rfl) d_Mo_outward_281 ⟨by decide, by decide⟩ (fun r N1 M_834 H locs hw hP hS => ?_)
                            obtain ⟨rfl, hw⟩ := hw
                            obtain ⟨rfl, rfl⟩ := hw
                            have hP : gm_P D cls A N (gm_up M_682 h (moO h (nI le) bp (nI nr) (nI wh) (nI tl) (nI ne) (nI nf) (nI na) (nI an) (nI tm) (nI cn) (nI cs) (nI bd) (nI lt) (nI (nt + 1)) u1v_690 u2v_691)) H := hP
                            have h_835 := gm_pass (k := h) (y := moO h (nI le) bp (nI nr) (nI wh) (nI tl) (nI ne) (nI nf) (nI na) (nI an) (nI tm) (nI cn) (nI cs) (nI bd) (nI lt) (nI (nt + 1)) u1v_690 u2v_691) h_812 (gm_ne h_812 h_693 (fun h => by cases h))
                            have h_836 := gm_pass (k := h) (y := moO h (nI le) bp (nI nr) (nI wh) (nI tl) (nI ne) (nI nf) (nI na) (nI an) (nI tm) (nI cn) (nI cs) (nI bd) (nI lt) (nI (nt + 1)) u1v_690 u2v_691) h_813 (gm_ne h_813 h_693 (fun h => by cases h))
                            have h_837 := gm_pass (k := h) (y := moO h (nI le) bp (nI nr) (nI wh) (nI tl) (nI ne) (nI nf) (nI na) (nI an) (nI tm) (nI cn) (nI cs) (nI bd) (nI lt) (nI (nt + 1)) u1v_690 u2v_691) h_814 (gm_ne h_814 h_693 (fun h => by cases h))
                            have h_838 := gm_pass (k := h) (y := moO h (nI le) bp (nI nr) (nI wh) (nI tl) (nI ne) (nI nf) (nI na) (nI an) (nI tm) (nI cn) (nI cs) (nI bd) (nI lt) (nI (nt + 1)) u1v_690 u2v_691) h_815 (gm_ne h_815 h_693 (fun h => by cases h))
                            have h_839 := gm_pass (k := h) (y := moO h (nI le) bp (nI nr) (nI wh) (nI tl) (nI ne) (nI nf) (nI na) (nI an) (nI tm) (nI cn) (nI cs) (nI bd) (nI lt) (nI (nt + 1)) u1v_690 u2v_691) h_816 (gm_ne h_816 h_693 (fun h => by cases h))
                            have h_840 := gm_pass (k := h) (y := moO h (nI le) bp (nI nr) (nI wh) (nI tl) (nI ne) (nI nf) (nI na) (nI an) (nI tm) (nI cn) (nI cs) (nI bd) (nI lt) (nI (nt + 1)) u1v_690 u2v_691) h_817 (gm_ne h_817 h_693 (fun h => by cases h))
                            have h_841 := gm_pass (k := h) (y := moO h (nI le) bp (nI nr) (nI wh) (nI tl) (nI ne) (nI nf) (nI na) (nI an) (nI tm) (nI cn) (nI cs) (nI bd) (nI lt) (nI (nt + 1)) u1v_690 u2v_691) h_818 (gm_ne h_818 h_693 (fun h => by cases h))
                            have h_842 := gm_pass (k := h) (y := moO h (nI le) bp (nI nr) (nI wh) (nI tl) (nI ne) (nI nf) (nI na) (nI an) (nI tm) (nI cn) (nI cs) (nI bd) (nI lt) (nI (nt + 1)) u1v_690 u2v_691) h_819 (gm_ne h_819 h_693 (fun h => by cases h))
                            have h_843 := gm_pass (k := h) (y := moO h (nI le) bp (nI nr) (nI wh) (nI tl) (nI ne) (nI nf) (nI na) (nI an) (nI tm) (nI cn) (nI cs) (nI bd) (nI lt) (nI (nt + 1)) u1v_690 u2v_691) h_820 (gm_ne h_820 h_693 (fun h => by cases h))
                            have h_844 := gm_pass (k := h) (y := moO h (nI le) bp (nI nr) (nI wh) (nI tl) (nI ne) (nI nf) (nI na) (nI an) (nI tm) (nI cn) (nI cs) (nI bd) (nI lt) (nI (nt + 1)) u1v_690 u2v_691) h_821 (gm_ne h_821 h_693 (fun h => by cases h))
                            have h_845 := gm_pass (k := h) (y := moO h (nI le) bp (nI nr) (nI wh) (nI tl) (nI ne) (nI nf) (nI na) (nI an) (nI tm) (nI cn) (nI cs) (nI bd) (nI lt) (nI (nt + 1)) u1v_690 u2v_691) h_822 (gm_ne h_822 h_693 (fun h => by cases h))
                            have h_846 := gm_pass (k := h) (y := moO h (nI le) bp (nI nr) (nI wh) (nI tl) (nI ne) (nI nf) (nI na) (nI an) (nI tm) (nI cn) (nI cs) (nI bd) (nI lt) (nI (nt + 1)) u1v_690 u2v_691) h_823 (gm_ne h_823 h_693 (fun h => by cases h))
                            have h_847 := gm_pass (k := h) (y := moO h (nI le) bp (nI nr) (nI wh) (nI tl) (nI ne) (nI nf) (nI na) (nI an) (nI tm) (nI cn) (nI cs) (nI bd) (nI lt) (nI (nt + 1)) u1v_690 u2v_691) h_824 (gm_ne h_824 h_693 (fun h => by cases h))
                            have h_848 := gm_pass (k := h) (y := moO h (nI le) bp (nI nr) (nI wh) (nI tl) (nI ne) (nI nf) (nI na) (nI an) (nI tm) (nI cn) (nI cs) (nI bd) (nI lt) (nI (nt + 1)) u1v_690 u2v_691) h_825 (gm_ne h_825 h_693 (fun h => by cases h))
                            have h_849 := gm_pass (k := h) (y := moO h (nI le) bp (nI nr) (nI wh) (nI tl) (nI ne) (nI nf) (nI na) (nI an) (nI tm) (nI cn) (nI cs) (nI bd) (nI lt) (nI (nt + 1)) u1v_690 u2v_691) h_826 (gm_ne h_826 h_693 (fun h => by cases h))
                            have h_850 := gm_pass (k := h) (y := moO h (nI le) bp (nI nr) (nI wh) (nI tl) (nI ne) (nI nf) (nI na) (nI an) (nI tm) (nI cn) (nI cs) (nI bd) (nI lt) (nI (nt + 1)) u1v_690 u2v_691) h_827 (gm_ne h_827 h_693 (fun h => by cases h))
                            have h_851 := gm_pass (k := h) (y := moO h (nI le) bp (nI nr) (nI wh) (nI tl) (nI ne) (nI nf) (nI na) (nI an) (nI tm) (nI cn) (nI cs) (nI bd) (nI lt) (nI (nt + 1)) u1v_690 u2v_691) h_828 (gm_ne h_828 h_693 (fun h => by cases h))
                            have h_852 := gm_pass (k := h) (y := moO h (nI le) bp (nI nr) (nI wh) (nI tl) (nI ne) (nI nf) (nI na) (nI an) (nI tm) (nI cn) (nI cs) (nI bd) (nI lt) (nI (nt + 1)) u1v_690 u2v_691) h_829 (gm_ne h_829 h_693 (fun h => by cases h))
                            have h_853 := gm_pass (k := h) (y := moO h (nI le) bp (nI nr) (nI wh) (nI tl) (nI ne) (nI nf) (nI na) (nI an) (nI tm) (nI cn) (nI cs) (nI bd) (nI lt) (nI (nt + 1)) u1v_690 u2v_691) h_830 (gm_ne h_830 h_693 (fun h => by cases h))
                            have h_854 := gm_pass (k := h) (y := moO h (nI le) bp (nI nr) (nI wh) (nI tl) (nI ne) (nI nf) (nI na) (nI an) (nI tm) (nI cn) (nI cs) (nI bd) (nI lt) (nI (nt + 1)) u1v_690 u2v_691) h_831 (gm_ne h_831 h_693 (fun h => by cases h))
                            have h_855 := gm_pass (k := h) (y := moO h (nI le) bp (nI nr) (nI wh) (nI tl) (nI ne) (nI nf) (nI na) (nI an) (nI tm) (nI cn) (nI cs) (nI bd) (nI lt) (nI (nt + 1)) u1v_690 u2v_691) h_832 (gm_ne h_832 h_693 (fun h => by cases h))
                            have h_856 := gm_up_self M_682 h (moO h (nI le) bp (nI nr) (nI wh) (nI tl) (nI ne) (nI nf) (nI na) (nI an) (nI tm) (nI cn) (nI cs) (nI bd) (nI lt) (nI (nt + 1)) u1v_690 u2v_691)
                            refine W.eq (g2 := F0 m 284 ls [.int (-7)]) rfl ?_
                            rw [← hQ]
                            exact gc_iret hx hb hr hlk hP hS d_Mo_outward_284 ⟨rfl, Or.inr ⟨pr0, f0, (-7), fl, nf, em, cs, lt, (nt + 1), an, mq, u1v_690, u2v_691, ⟨rfl, hpr0⟩, ⟨rfl, hf0⟩, (by unfold outF; rw [if_neg (by omega), c_17]; simp only [hp_478]; rw [if_neg (by omega), if_neg (by omega)]; unfold openO; rw [if_neg (by omega), if_pos (by omega)]), hRF, (Or.inr ⟨by decide, rfl, rfl, rfl⟩), h_856, h_846, h_847, h_848, h_849, h_850, h_851, h_852, h_853, h_854, h_855, h_841, (fun z q0 q1 q2 q3 q4 q5 q6 q7 q8 q9 q10 q11 => (gm_up_ne _ _ q0).trans ((hfr_694 z q0).trans (rfl))), rfl⟩⟩
                          · skip
                            refine lv_iload hx hb d_Mo_outward_273 (lv_at hl 0 rfl) ?_
                            refine lv_if_ge (tgt := 285) hx hb d_Mo_outward_275 (by decide) (fun q => absurd q (by decide)) (fun _ => ?_)
                            refine lv_aload_n hx hb d_Mo_outward_278 rfl (lv_at hl 3 rfl) ?_
                            refine lv_bipush (v := (-7)) hx hb d_Mo_outward_279 (by decide) ?_
                            refine gc_V (q := (R_Mo, F_Mo, 44)) (n := 1) [.int (-7)] [] hx hb hml hown hts hK hN hX hP hS (c_Mo_stop (-7) h_693) rfl h_693 k_959 k_961 ks_Mo_stop k_10 k_962 (by decide +kernel) ⟨by decide, by decide⟩ rfl hl.1 rfl (Nat.le_of_ble_eq_true rfl) d_Mo_outward_281 ⟨by decide, by decide⟩ (fun r N1 M_857 H locs hw hP hS => ?_)
                            obtain ⟨rfl, hw⟩ := hw
                            obtain ⟨rfl, rfl⟩ := hw
                            have hP : gm_P D cls A N (gm_up M_682 h (moO h (nI le) bp (nI nr) (nI wh) (nI tl) (nI ne) (nI nf) (nI na) (nI an) (nI tm) (nI cn) (nI cs) (nI bd) (nI lt) (nI (nt + 1)) u1v_690 u2v_691)) H := hP
                            have h_858 := gm_pass (k := h) (y := moO h (nI le) bp (nI nr) (nI wh) (nI tl) (nI ne) (nI nf) (nI na) (nI an) (nI tm) (nI cn) (nI cs) (nI bd) (nI lt) (nI (nt + 1)) u1v_690 u2v_691) h_812 (gm_ne h_812 h_693 (fun h => by cases h))
                            have h_859 := gm_pass (k := h) (y := moO h (nI le) bp (nI nr) (nI wh) (nI tl) (nI ne) (nI nf) (nI na) (nI an) (nI tm) (nI cn) (nI cs) (nI bd) (nI lt) (nI (nt + 1)) u1v_690 u2v_691) h_813 (gm_ne h_813 h_693 (fun h => by cases h))
                            have h_860 := gm_pass (k := h) (y := moO h (nI le) bp (nI nr) (nI wh) (nI tl) (nI ne) (nI nf) (nI na) (nI an) (nI tm) (nI cn) (nI cs) (nI bd) (nI lt) (nI (nt + 1)) u1v_690 u2v_691) h_814 (gm_ne h_814 h_693 (fun h => by cases h))
                            have h_861 := gm_pass (k := h) (y := moO h (nI le) bp (nI nr) (nI wh) (nI tl) (nI ne) (nI nf) (nI na) (nI an) (nI tm) (nI cn) (nI cs) (nI bd) (nI lt) (nI (nt + 1)) u1v_690 u2v_691) h_815 (gm_ne h_815 h_693 (fun h => by cases h))
                            have h_862 := gm_pass (k := h) (y := moO h (nI le) bp (nI nr) (nI wh) (nI tl) (nI ne) (nI nf) (nI na) (nI an) (nI tm) (nI cn) (nI cs) (nI bd) (nI lt) (nI (nt + 1)) u1v_690 u2v_691) h_816 (gm_ne h_816 h_693 (fun h => by cases h))
                            have h_863 := gm_pass (k := h) (y := moO h (nI le) bp (nI nr) (nI wh) (nI tl) (nI ne) (nI nf) (nI na) (nI an) (nI tm) (nI cn) (nI cs) (nI bd) (nI lt) (nI (nt + 1)) u1v_690 u2v_691) h_817 (gm_ne h_817 h_693 (fun h => by cases h))
                            have h_864 := gm_pass (k := h) (y := moO h (nI le) bp (nI nr) (nI wh) (nI tl) (nI ne) (nI nf) (nI na) (nI an) (nI tm) (nI cn) (nI cs) (nI bd) (nI lt) (nI (nt + 1)) u1v_690 u2v_691) h_818 (gm_ne h_818 h_693 (fun h => by cases h))
                            have h_865 := gm_pass (k := h) (y := moO h (nI le) bp (nI nr) (nI wh) (nI tl) (nI ne) (nI nf) (nI na) (nI an) (nI tm) (nI cn) (nI cs) (nI bd) (nI lt) (nI (nt + 1)) u1v_690 u2v_691) h_819 (gm_ne h_819 h_693 (fun h => by cases h))
                            have h_866 := gm_pass (k := h) (y := moO h (nI le) bp (nI nr) (nI wh) (nI tl) (nI ne) (nI nf) (nI na) (nI an) (nI tm) (nI cn) (nI cs) (nI bd) (nI lt) (nI (nt + 1)) u1v_690 u2v_691) h_820 (gm_ne h_820 h_693 (fun h => by cases h))
                            have h_867 := gm_pass (k := h) (y := moO h (nI le) bp (nI nr) (nI wh) (nI tl) (nI ne) (nI nf) (nI na) (nI an) (nI tm) (nI cn) (nI cs) (nI bd) (nI lt) (nI (nt + 1)) u1v_690 u2v_691) h_821 (gm_ne h_821 h_693 (fun h => by cases h))
                            have h_868 := gm_pass (k := h) (y := moO h (nI le) bp (nI nr) (nI wh) (nI tl) (nI ne) (nI nf) (nI na) (nI an) (nI tm) (nI cn) (nI cs) (nI bd) (nI lt) (nI (nt + 1)) u1v_690 u2v_691) h_822 (gm_ne h_822 h_693 (fun h => by cases h))
                            have h_869 := gm_pass (k := h) (y := moO h (nI le) bp (nI nr) (nI wh) (nI tl) (nI ne) (nI nf) (nI na) (nI an) (nI tm) (nI cn) (nI cs) (nI bd) (nI lt) (nI (nt + 1)) u1v_690 u2v_691) h_823 (gm_ne h_823 h_693 (fun h => by cases h))
                            have h_870 := gm_pass (k := h) (y := moO h (nI le) bp (nI nr) (nI wh) (nI tl) (nI ne) (nI nf) (nI na) (nI an) (nI tm) (nI cn) (nI cs) (nI bd) (nI lt) (nI (nt + 1)) u1v_690 u2v_691) h_824 (gm_ne h_824 h_693 (fun h => by cases h))
                            have h_871 := gm_pass (k := h) (y := moO h (nI le) bp (nI nr) (nI wh) (nI tl) (nI ne) (nI nf) (nI na) (nI an) (nI tm) (nI cn) (nI cs) (nI bd) (nI lt) (nI (nt + 1)) u1v_690 u2v_691) h_825 (gm_ne h_825 h_693 (fun h => by cases h))
                            have h_872 := gm_pass (k := h) (y := moO h (nI le) bp (nI nr) (nI wh) (nI tl) (nI ne) (nI nf) (nI na) (nI an) (nI tm) (nI cn) (nI cs) (nI bd) (nI lt) (nI (nt + 1)) u1v_690 u2v_691) h_826 (gm_ne h_826 h_693 (fun h => by cases h))
                            have h_873 := gm_pass (k := h) (y := moO h (nI le) bp (nI nr) (nI wh) (nI tl) (nI ne) (nI nf) (nI na) (nI an) (nI tm) (nI cn) (nI cs) (nI bd) (nI lt) (nI (nt + 1)) u1v_690 u2v_691) h_827 (gm_ne h_827 h_693 (fun h => by cases h))
                            have h_874 := gm_pass (k := h) (y := moO h (nI le) bp (nI nr) (nI wh) (nI tl) (nI ne) (nI nf) (nI na) (nI an) (nI tm) (nI cn) (nI cs) (nI bd) (nI lt) (nI (nt + 1)) u1v_690 u2v_691) h_828 (gm_ne h_828 h_693 (fun h => by cases h))
                            have h_875 := gm_pass (k := h) (y := moO h (nI le) bp (nI nr) (nI wh) (nI tl) (nI ne) (nI nf) (nI na) (nI an) (nI tm) (nI cn) (nI cs) (nI bd) (nI lt) (nI (nt + 1)) u1v_690 u2v_691) h_829 (gm_ne h_829 h_693 (fun h => by cases h))
                            have h_876 := gm_pass (k := h) (y := moO h (nI le) bp (nI nr) (nI wh) (nI tl) (nI ne) (nI nf) (nI na) (nI an) (nI tm) (nI cn) (nI cs) (nI bd) (nI lt) (nI (nt + 1)) u1v_690 u2v_691) h_830 (gm_ne h_830 h_693 (fun h => by cases h))
                            have h_877 := gm_pass (k := h) (y := moO h (nI le) bp (nI nr) (nI wh) (nI tl) (nI ne) (nI nf) (nI na) (nI an) (nI tm) (nI cn) (nI cs) (nI bd) (nI lt) (nI (nt + 1)) u1v_690 u2v_691) h_831 (gm_ne h_831 h_693 (fun h => by cases h))
                            have h_878 := gm_pass (k := h) (y := moO h (nI le) bp (nI nr) (nI wh) (nI tl) (nI ne) (nI nf) (nI na) (nI an) (nI tm) (nI cn) (nI cs) (nI bd) (nI lt) (nI (nt + 1)) u1v_690 u2v_691) h_832 (gm_ne h_832 h_693 (fun h => by cases h))
                            have h_879 := gm_up_self M_682 h (moO h (nI le) bp (nI nr) (nI wh) (nI tl) (nI ne) (nI nf) (nI na) (nI an) (nI tm) (nI cn) (nI cs) (nI bd) (nI lt) (nI (nt + 1)) u1v_690 u2v_691)
                            refine W.eq (g2 := F0 m 284 ls [.int (-7)]) rfl ?_
                            rw [← hQ]
                            exact gc_iret hx hb hr hlk hP hS d_Mo_outward_284 ⟨rfl, Or.inr ⟨pr0, f0, (-7), fl, nf, em, cs, lt, (nt + 1), an, mq, u1v_690, u2v_691, ⟨rfl, hpr0⟩, ⟨rfl, hf0⟩, (by unfold outF; rw [if_neg (by omega), c_17]; simp only [hp_478]; rw [if_neg (by omega), if_neg (by omega)]; unfold openO; rw [if_neg (by omega), if_neg (by omega), c_133, c_692]; rfl), hRF, (Or.inr ⟨by decide, rfl, rfl, rfl⟩), h_879, h_869, h_870, h_871, h_872, h_873, h_874, h_875, h_876, h_877, h_878, h_864, (fun z q0 q1 q2 q3 q4 q5 q6 q7 q8 q9 q10 q11 => (gm_up_ne _ _ q0).trans ((hfr_694 z q0).trans (rfl))), rfl⟩⟩
                      · skip
                        refine lv_aload_n hx hb d_Mo_outward_245 rfl (lv_at hl 3 rfl) ?_
                        refine lv_bipush (v := (-6)) hx hb d_Mo_outward_246 (by decide) ?_
                        refine gc_V (q := (R_Mo, F_Mo, 44)) (n := 1) [.int (-6)] [] hx hb hml hown hts hK hN hX hP hS (c_Mo_stop (-6) eh) rfl eh k_959 k_961 ks_Mo_stop k_10 k_962 (by decide +kernel) ⟨by decide, by decide⟩ rfl hl.1 rfl (Nat.le_of_ble_eq_true rfl) d_Mo_outward_248 ⟨by decide, by decide⟩ (fun r N1 M_880 H locs hw hP hS => ?_)
                        obtain ⟨rfl, hw⟩ := hw
                        obtain ⟨rfl, rfl⟩ := hw
                        have hP : gm_P D cls A N (gm_up M h (moO h (nI le) bp (nI nr) (nI wh) (nI tl) (nI ne) (nI nf) (nI na) (nI an) (nI tm) (nI cn) (nI cs) (nI bd) (nI lt) (nI (nt + 1)) fx fy)) H := hP
                        have h_881 := gm_pass (k := h) (y := moO h (nI le) bp (nI nr) (nI wh) (nI tl) (nI ne) (nI nf) (nI na) (nI an) (nI tm) (nI cn) (nI cs) (nI bd) (nI lt) (nI (nt + 1)) fx fy) m2 (gm_ne m2 eh (fun h => by cases h))
                        have h_882 := gm_pass (k := h) (y := moO h (nI le) bp (nI nr) (nI wh) (nI tl) (nI ne) (nI nf) (nI na) (nI an) (nI tm) (nI cn) (nI cs) (nI bd) (nI lt) (nI (nt + 1)) fx fy) m3 (gm_ne m3 eh (fun h => by cases h))
                        have h_883 := gm_pass (k := h) (y := moO h (nI le) bp (nI nr) (nI wh) (nI tl) (nI ne) (nI nf) (nI na) (nI an) (nI tm) (nI cn) (nI cs) (nI bd) (nI lt) (nI (nt + 1)) fx fy) m4 (gm_ne m4 eh (fun h => by cases h))
                        have h_884 := gm_pass (k := h) (y := moO h (nI le) bp (nI nr) (nI wh) (nI tl) (nI ne) (nI nf) (nI na) (nI an) (nI tm) (nI cn) (nI cs) (nI bd) (nI lt) (nI (nt + 1)) fx fy) m5 (gm_ne m5 eh (fun h => by cases h))
                        have h_885 := gm_pass (k := h) (y := moO h (nI le) bp (nI nr) (nI wh) (nI tl) (nI ne) (nI nf) (nI na) (nI an) (nI tm) (nI cn) (nI cs) (nI bd) (nI lt) (nI (nt + 1)) fx fy) m6 (gm_ne m6 eh (fun h => by cases h))
                        have h_886 := gm_pass (k := h) (y := moO h (nI le) bp (nI nr) (nI wh) (nI tl) (nI ne) (nI nf) (nI na) (nI an) (nI tm) (nI cn) (nI cs) (nI bd) (nI lt) (nI (nt + 1)) fx fy) m26 (gm_ne m26 eh (fun h => by cases h))
                        have h_887 := gm_pass (k := h) (y := moO h (nI le) bp (nI nr) (nI wh) (nI tl) (nI ne) (nI nf) (nI na) (nI an) (nI tm) (nI cn) (nI cs) (nI bd) (nI lt) (nI (nt + 1)) fx fy) m27 (gm_ne m27 eh (fun h => by cases h))
                        have h_888 := gm_pass (k := h) (y := moO h (nI le) bp (nI nr) (nI wh) (nI tl) (nI ne) (nI nf) (nI na) (nI an) (nI tm) (nI cn) (nI cs) (nI bd) (nI lt) (nI (nt + 1)) fx fy) m10 (gm_ne m10 eh (fun h => by cases h))
                        have h_889 := gm_pass (k := h) (y := moO h (nI le) bp (nI nr) (nI wh) (nI tl) (nI ne) (nI nf) (nI na) (nI an) (nI tm) (nI cn) (nI cs) (nI bd) (nI lt) (nI (nt + 1)) fx fy) m11 (gm_ne m11 eh (fun h => by cases h))
                        have h_890 := gm_pass (k := h) (y := moO h (nI le) bp (nI nr) (nI wh) (nI tl) (nI ne) (nI nf) (nI na) (nI an) (nI tm) (nI cn) (nI cs) (nI bd) (nI lt) (nI (nt + 1)) fx fy) m12 (gm_ne m12 eh (fun h => by cases h))
                        have h_891 := gm_pass (k := h) (y := moO h (nI le) bp (nI nr) (nI wh) (nI tl) (nI ne) (nI nf) (nI na) (nI an) (nI tm) (nI cn) (nI cs) (nI bd) (nI lt) (nI (nt + 1)) fx fy) m13 (gm_ne m13 eh (fun h => by cases h))
                        have h_892 := gm_pass (k := h) (y := moO h (nI le) bp (nI nr) (nI wh) (nI tl) (nI ne) (nI nf) (nI na) (nI an) (nI tm) (nI cn) (nI cs) (nI bd) (nI lt) (nI (nt + 1)) fx fy) m14 (gm_ne m14 eh (fun h => by cases h))
                        have h_893 := gm_pass (k := h) (y := moO h (nI le) bp (nI nr) (nI wh) (nI tl) (nI ne) (nI nf) (nI na) (nI an) (nI tm) (nI cn) (nI cs) (nI bd) (nI lt) (nI (nt + 1)) fx fy) m15 (gm_ne m15 eh (fun h => by cases h))
                        have h_894 := gm_pass (k := h) (y := moO h (nI le) bp (nI nr) (nI wh) (nI tl) (nI ne) (nI nf) (nI na) (nI an) (nI tm) (nI cn) (nI cs) (nI bd) (nI lt) (nI (nt + 1)) fx fy) m16 (gm_ne m16 eh (fun h => by cases h))
                        have h_895 := gm_pass (k := h) (y := moO h (nI le) bp (nI nr) (nI wh) (nI tl) (nI ne) (nI nf) (nI na) (nI an) (nI tm) (nI cn) (nI cs) (nI bd) (nI lt) (nI (nt + 1)) fx fy) m17 (gm_ne m17 eh (fun h => by cases h))
                        have h_896 := gm_pass (k := h) (y := moO h (nI le) bp (nI nr) (nI wh) (nI tl) (nI ne) (nI nf) (nI na) (nI an) (nI tm) (nI cn) (nI cs) (nI bd) (nI lt) (nI (nt + 1)) fx fy) m18 (gm_ne m18 eh (fun h => by cases h))
                        have h_897 := gm_pass (k := h) (y := moO h (nI le) bp (nI nr) (nI wh) (nI tl) (nI ne) (nI nf) (nI na) (nI an) (nI tm) (nI cn) (nI cs) (nI bd) (nI lt) (nI (nt + 1)) fx fy) m19 (gm_ne m19 eh (fun h => by cases h))
                        have h_898 := gm_pass (k := h) (y := moO h (nI le) bp (nI nr) (nI wh) (nI tl) (nI ne) (nI nf) (nI na) (nI an) (nI tm) (nI cn) (nI cs) (nI bd) (nI lt) (nI (nt + 1)) fx fy) m20 (gm_ne m20 eh (fun h => by cases h))
                        have h_899 := gm_pass (k := h) (y := moO h (nI le) bp (nI nr) (nI wh) (nI tl) (nI ne) (nI nf) (nI na) (nI an) (nI tm) (nI cn) (nI cs) (nI bd) (nI lt) (nI (nt + 1)) fx fy) m21 (gm_ne m21 eh (fun h => by cases h))
                        have h_900 := gm_pass (k := h) (y := moO h (nI le) bp (nI nr) (nI wh) (nI tl) (nI ne) (nI nf) (nI na) (nI an) (nI tm) (nI cn) (nI cs) (nI bd) (nI lt) (nI (nt + 1)) fx fy) m22 (gm_ne m22 eh (fun h => by cases h))
                        have h_901 := gm_pass (k := h) (y := moO h (nI le) bp (nI nr) (nI wh) (nI tl) (nI ne) (nI nf) (nI na) (nI an) (nI tm) (nI cn) (nI cs) (nI bd) (nI lt) (nI (nt + 1)) fx fy) m23 (gm_ne m23 eh (fun h => by cases h))
                        have h_902 := gm_up_self M h (moO h (nI le) bp (nI nr) (nI wh) (nI tl) (nI ne) (nI nf) (nI na) (nI an) (nI tm) (nI cn) (nI cs) (nI bd) (nI lt) (nI (nt + 1)) fx fy)
                        refine W.eq (g2 := F0 m 251 ls [.int (-6)]) rfl ?_
                        rw [← hQ]
                        exact gc_iret hx hb hr hlk hP hS d_Mo_outward_251 ⟨rfl, Or.inr ⟨pr0, f0, (-6), fl, nf, em, cs, lt, (nt + 1), an, mq, fx, fy, ⟨rfl, hpr0⟩, ⟨rfl, hf0⟩, (by unfold outF; rw [if_neg (by omega), c_17]; simp only [hp_478]; rw [if_neg (by omega), if_neg (by omega)]; unfold openO; rw [if_pos (by omega)]), hRF, (Or.inr ⟨by decide, rfl, rfl, rfl⟩), h_902, h_892, h_893, h_894, h_895, h_896, h_897, h_898, h_899, h_900, h_901, h_887, (fun z q0 q1 q2 q3 q4 q5 q6 q7 q8 q9 q10 q11 => (gm_up_ne _ _ q0).trans (rfl)), rfl⟩⟩
                  · skip
                    refine lv_aload_n hx hb d_Mo_outward_190 rfl (lv_at hl 3 rfl) ?_
                    refine gm_get (C := R_Mo) (T := F_Mo) (n := 44) hx hb htl i_Mo hown hK hP eh rfl 38 (by decide) (htl _ k_781) (fun _ h => h) rfl d_Mo_outward_191 ?_
                    refine lv_bipush (v := nI 40) hx hb d_Mo_outward_194 (by decide) ?_
                    refine ln_ne (tgt := 206) hx hb d_Mo_outward_196 (by decide) (by omega) (by omega) (fun c_903 => ?_) (fun c_903 => ?_)
                    · skip
                      refine lv_aload_n hx hb d_Mo_outward_206 rfl (lv_at hl 3 rfl) ?_
                      refine lv_dup hx hb d_Mo_outward_207 rfl ?_
                      refine gm_get (C := R_Mo) (T := F_Mo) (n := 44) hx hb htl i_Mo hown hK hP eh rfl 38 (by decide) (htl _ k_781) (fun _ h => h) rfl d_Mo_outward_208 ?_
                      refine lv_iconst (v := nI 1) hx hb d_Mo_outward_211 (by decide) ?_
                      refine lv_iadd hx hb d_Mo_outward_212 ?_
                      rw [show (nI cs) + (nI 1) = nI (cs + 1) from nI_add _ _]
                      refine gm_put (C := R_Mo) (T := F_Mo) (n := 44) (ty := .int) hx hb htl i_Mo t_Mo tk_Mo n_Mo hown hK hP hS eh rfl 38 (by decide) (htl _ k_781) (fun _ h => h) rfl (tk_Mo 38 (by decide)) rfl rfl (Nat.le_of_ble_eq_true rfl) d_Mo_outward_213 (fun H locs hP hS => ?_)
                      have hP : gm_P D cls A N (gm_up M h (moO h (nI le) bp (nI nr) (nI wh) (nI tl) (nI ne) (nI nf) (nI na) (nI an) (nI tm) (nI cn) (nI (cs + 1)) (nI bd) (nI lt) (nI nt) fx fy)) H := hP
                      have h_904 := gm_pass (k := h) (y := moO h (nI le) bp (nI nr) (nI wh) (nI tl) (nI ne) (nI nf) (nI na) (nI an) (nI tm) (nI cn) (nI (cs + 1)) (nI bd) (nI lt) (nI nt) fx fy) m2 (gm_ne m2 eh (fun h => by cases h))
                      have h_905 := gm_pass (k := h) (y := moO h (nI le) bp (nI nr) (nI wh) (nI tl) (nI ne) (nI nf) (nI na) (nI an) (nI tm) (nI cn) (nI (cs + 1)) (nI bd) (nI lt) (nI nt) fx fy) m3 (gm_ne m3 eh (fun h => by cases h))
                      have h_906 := gm_pass (k := h) (y := moO h (nI le) bp (nI nr) (nI wh) (nI tl) (nI ne) (nI nf) (nI na) (nI an) (nI tm) (nI cn) (nI (cs + 1)) (nI bd) (nI lt) (nI nt) fx fy) m4 (gm_ne m4 eh (fun h => by cases h))
                      have h_907 := gm_pass (k := h) (y := moO h (nI le) bp (nI nr) (nI wh) (nI tl) (nI ne) (nI nf) (nI na) (nI an) (nI tm) (nI cn) (nI (cs + 1)) (nI bd) (nI lt) (nI nt) fx fy) m5 (gm_ne m5 eh (fun h => by cases h))
                      have h_908 := gm_pass (k := h) (y := moO h (nI le) bp (nI nr) (nI wh) (nI tl) (nI ne) (nI nf) (nI na) (nI an) (nI tm) (nI cn) (nI (cs + 1)) (nI bd) (nI lt) (nI nt) fx fy) m6 (gm_ne m6 eh (fun h => by cases h))
                      have h_909 := gm_pass (k := h) (y := moO h (nI le) bp (nI nr) (nI wh) (nI tl) (nI ne) (nI nf) (nI na) (nI an) (nI tm) (nI cn) (nI (cs + 1)) (nI bd) (nI lt) (nI nt) fx fy) m26 (gm_ne m26 eh (fun h => by cases h))
                      have h_910 := gm_pass (k := h) (y := moO h (nI le) bp (nI nr) (nI wh) (nI tl) (nI ne) (nI nf) (nI na) (nI an) (nI tm) (nI cn) (nI (cs + 1)) (nI bd) (nI lt) (nI nt) fx fy) m27 (gm_ne m27 eh (fun h => by cases h))
                      have h_911 := gm_pass (k := h) (y := moO h (nI le) bp (nI nr) (nI wh) (nI tl) (nI ne) (nI nf) (nI na) (nI an) (nI tm) (nI cn) (nI (cs + 1)) (nI bd) (nI lt) (nI nt) fx fy) m10 (gm_ne m10 eh (fun h => by cases h))
                      have h_912 := gm_pass (k := h) (y := moO h (nI le) bp (nI nr) (nI wh) (nI tl) (nI ne) (nI nf) (nI na) (nI an) (nI tm) (nI cn) (nI (cs + 1)) (nI bd) (nI lt) (nI nt) fx fy) m11 (gm_ne m11 eh (fun h => by cases h))
                      have h_913 := gm_pass (k := h) (y := moO h (nI le) bp (nI nr) (nI wh) (nI tl) (nI ne) (nI nf) (nI na) (nI an) (nI tm) (nI cn) (nI (cs + 1)) (nI bd) (nI lt) (nI nt) fx fy) m12 (gm_ne m12 eh (fun h => by cases h))
                      have h_914 := gm_pass (k := h) (y := moO h (nI le) bp (nI nr) (nI wh) (nI tl) (nI ne) (nI nf) (nI na) (nI an) (nI tm) (nI cn) (nI (cs + 1)) (nI bd) (nI lt) (nI nt) fx fy) m13 (gm_ne m13 eh (fun h => by cases h))
                      have h_915 := gm_pass (k := h) (y := moO h (nI le) bp (nI nr) (nI wh) (nI tl) (nI ne) (nI nf) (nI na) (nI an) (nI tm) (nI cn) (nI (cs + 1)) (nI bd) (nI lt) (nI nt) fx fy) m14 (gm_ne m14 eh (fun h => by cases h))
                      have h_916 := gm_pass (k := h) (y := moO h (nI le) bp (nI nr) (nI wh) (nI tl) (nI ne) (nI nf) (nI na) (nI an) (nI tm) (nI cn) (nI (cs + 1)) (nI bd) (nI lt) (nI nt) fx fy) m15 (gm_ne m15 eh (fun h => by cases h))
                      have h_917 := gm_pass (k := h) (y := moO h (nI le) bp (nI nr) (nI wh) (nI tl) (nI ne) (nI nf) (nI na) (nI an) (nI tm) (nI cn) (nI (cs + 1)) (nI bd) (nI lt) (nI nt) fx fy) m16 (gm_ne m16 eh (fun h => by cases h))
                      have h_918 := gm_pass (k := h) (y := moO h (nI le) bp (nI nr) (nI wh) (nI tl) (nI ne) (nI nf) (nI na) (nI an) (nI tm) (nI cn) (nI (cs + 1)) (nI bd) (nI lt) (nI nt) fx fy) m17 (gm_ne m17 eh (fun h => by cases h))
                      have h_919 := gm_pass (k := h) (y := moO h (nI le) bp (nI nr) (nI wh) (nI tl) (nI ne) (nI nf) (nI na) (nI an) (nI tm) (nI cn) (nI (cs + 1)) (nI bd) (nI lt) (nI nt) fx fy) m18 (gm_ne m18 eh (fun h => by cases h))
                      have h_920 := gm_pass (k := h) (y := moO h (nI le) bp (nI nr) (nI wh) (nI tl) (nI ne) (nI nf) (nI na) (nI an) (nI tm) (nI cn) (nI (cs + 1)) (nI bd) (nI lt) (nI nt) fx fy) m19 (gm_ne m19 eh (fun h => by cases h))
                      have h_921 := gm_pass (k := h) (y := moO h (nI le) bp (nI nr) (nI wh) (nI tl) (nI ne) (nI nf) (nI na) (nI an) (nI tm) (nI cn) (nI (cs + 1)) (nI bd) (nI lt) (nI nt) fx fy) m20 (gm_ne m20 eh (fun h => by cases h))
                      have h_922 := gm_pass (k := h) (y := moO h (nI le) bp (nI nr) (nI wh) (nI tl) (nI ne) (nI nf) (nI na) (nI an) (nI tm) (nI cn) (nI (cs + 1)) (nI bd) (nI lt) (nI nt) fx fy) m21 (gm_ne m21 eh (fun h => by cases h))
                      have h_923 := gm_pass (k := h) (y := moO h (nI le) bp (nI nr) (nI wh) (nI tl) (nI ne) (nI nf) (nI na) (nI an) (nI tm) (nI cn) (nI (cs + 1)) (nI bd) (nI lt) (nI nt) fx fy) m22 (gm_ne m22 eh (fun h => by cases h))
                      have h_924 := gm_pass (k := h) (y := moO h (nI le) bp (nI nr) (nI wh) (nI tl) (nI ne) (nI nf) (nI na) (nI an) (nI tm) (nI cn) (nI (cs + 1)) (nI bd) (nI lt) (nI nt) fx fy) m23 (gm_ne m23 eh (fun h => by cases h))
                      have h_925 := gm_up_self M h (moO h (nI le) bp (nI nr) (nI wh) (nI tl) (nI ne) (nI nf) (nI na) (nI an) (nI tm) (nI cn) (nI (cs + 1)) (nI bd) (nI lt) (nI nt) fx fy)
                      refine lv_aload_n hx hb d_Mo_outward_216 rfl (lv_at hl 3 rfl) ?_
                      refine lv_iconst (v := nI 1) hx hb d_Mo_outward_217 (by decide) ?_
                      refine lv_sipush (v := nI 200) hx hb d_Mo_outward_218 (by decide) ?_
                      refine lv_aload_n hx hb d_Mo_outward_221 rfl (lv_at hl 3 rfl) ?_
                      refine gm_get (C := R_Mo) (T := F_Mo) (n := 44) hx hb htl i_Mo hown hK hP h_925 rfl 37 (by decide) (htl _ k_780) (fun _ h => h) rfl d_Mo_outward_222 ?_
                      refine lv_sipush (v := nI 250) hx hb d_Mo_outward_225 (by decide) ?_
                      refine lv_aload_n hx hb d_Mo_outward_228 rfl (lv_at hl 3 rfl) ?_
                      refine gm_get (C := R_Mo) (T := F_Mo) (n := 44) hx hb htl i_Mo hown hK hP h_925 rfl 38 (by decide) (htl _ k_781) (fun _ h => h) rfl d_Mo_outward_229 ?_
                      refine gc_V (q := (R_Mo, F_Mo, 44)) (n := 5) [.int (nI 1), .int (nI 200), .int (nI cn), .int (nI 250), .int (nI (cs + 1))] [] hx hb hml hown hts hK hN hX hP hS (c_Mo_emit (nI 1) h_925 h_910) rfl h_925 k_975 k_977 ks_Mo_emit k_10 k_978 (by decide +kernel) ⟨by decide, by decide⟩ rfl hl.1 rfl (Nat.le_of_ble_eq_true rfl) d_Mo_outward_232 ⟨by decide, by decide⟩ (fun r N1 M_926 H locs hw hP hS => ?_)
                      obtain ⟨rfl, hw⟩ := hw
                      obtain ⟨rfl, rfl⟩ := hw
                      have h_927 := gm_pass (k := (h + 27)) (y := .inl (ca 0, 4, .inl (iN (eUp em 200 cn 250 (cs + 1))))) h_904 (gm_ne h_904 h_910 (fun h => by simp at h))
                      have h_928 := gm_pass (k := (h + 27)) (y := .inl (ca 0, 4, .inl (iN (eUp em 200 cn 250 (cs + 1))))) h_905 (gm_ne h_905 h_910 (fun h => by simp at h))
                      have h_929 := gm_pass (k := (h + 27)) (y := .inl (ca 0, 4, .inl (iN (eUp em 200 cn 250 (cs + 1))))) h_906 (gm_ne h_906 h_910 (fun h => by simp at h))
                      have h_930 := gm_pass (k := (h + 27)) (y := .inl (ca 0, 4, .inl (iN (eUp em 200 cn 250 (cs + 1))))) h_907 (gm_ne h_907 h_910 (fun h => by simp at h))
                      have h_931 := gm_pass (k := (h + 27)) (y := .inl (ca 0, 4, .inl (iN (eUp em 200 cn 250 (cs + 1))))) h_908 (gm_ne h_908 h_910 (fun h => by simp at h))
                      have h_932 := gm_pass (k := (h + 27)) (y := .inl (ca 0, 4, .inl (iN (eUp em 200 cn 250 (cs + 1))))) h_909 (by omega)
                      have h_933 := gm_pass (k := (h + 27)) (y := .inl (ca 0, 4, .inl (iN (eUp em 200 cn 250 (cs + 1))))) h_911 (gm_ne h_911 h_910 (fun h => by simp at h))
                      have h_934 := gm_pass (k := (h + 27)) (y := .inl (ca 0, 4, .inl (iN (eUp em 200 cn 250 (cs + 1))))) h_912 (gm_ne h_912 h_910 (fun h => by simp at h))
                      have h_935 := gm_pass (k := (h + 27)) (y := .inl (ca 0, 4, .inl (iN (eUp em 200 cn 250 (cs + 1))))) h_913 (gm_ne h_913 h_910 (fun h => by simp at h))
                      have h_936 := gm_pass (k := (h + 27)) (y := .inl (ca 0, 4, .inl (iN (eUp em 200 cn 250 (cs + 1))))) h_914 (gm_ne h_914 h_910 (fun h => by simp at h))
                      have h_937 := gm_pass (k := (h + 27)) (y := .inl (ca 0, 4, .inl (iN (eUp em 200 cn 250 (cs + 1))))) h_915 (gm_ne h_915 h_910 (fun h => by simp at h))
                      have h_938 := gm_pass (k := (h + 27)) (y := .inl (ca 0, 4, .inl (iN (eUp em 200 cn 250 (cs + 1))))) h_916 (gm_ne h_916 h_910 (fun h => by simp at h))
                      have h_939 := gm_pass (k := (h + 27)) (y := .inl (ca 0, 4, .inl (iN (eUp em 200 cn 250 (cs + 1))))) h_917 (gm_ne h_917 h_910 (fun h => by simp at h))
                      have h_940 := gm_pass (k := (h + 27)) (y := .inl (ca 0, 4, .inl (iN (eUp em 200 cn 250 (cs + 1))))) h_918 (gm_ne h_918 h_910 (fun h => by simp at h))
                      have h_941 := gm_pass (k := (h + 27)) (y := .inl (ca 0, 4, .inl (iN (eUp em 200 cn 250 (cs + 1))))) h_919 (gm_ne h_919 h_910 (fun h => by simp at h))
                      have h_942 := gm_pass (k := (h + 27)) (y := .inl (ca 0, 4, .inl (iN (eUp em 200 cn 250 (cs + 1))))) h_920 (gm_ne h_920 h_910 (fun h => by simp at h))
                      have h_943 := gm_pass (k := (h + 27)) (y := .inl (ca 0, 4, .inl (iN (eUp em 200 cn 250 (cs + 1))))) h_921 (gm_ne h_921 h_910 (fun h => by simp at h))
                      have h_944 := gm_pass (k := (h + 27)) (y := .inl (ca 0, 4, .inl (iN (eUp em 200 cn 250 (cs + 1))))) h_922 (gm_ne h_922 h_910 (fun h => by simp at h))
                      have h_945 := gm_pass (k := (h + 27)) (y := .inl (ca 0, 4, .inl (iN (eUp em 200 cn 250 (cs + 1))))) h_923 (gm_ne h_923 h_910 (fun h => by simp at h))
                      have h_946 := gm_pass (k := (h + 27)) (y := .inl (ca 0, 4, .inl (iN (eUp em 200 cn 250 (cs + 1))))) h_924 (gm_ne h_924 h_910 (fun h => by simp at h))
                      have h_947 := gm_pass (k := (h + 27)) (y := .inl (ca 0, 4, .inl (iN (eUp em 200 cn 250 (cs + 1))))) h_925 (gm_ne h_925 h_910 (fun h => by cases h))
                      have h_948 := gm_up_self (gm_up M h (moO h (nI le) bp (nI nr) (nI wh) (nI tl) (nI ne) (nI nf) (nI na) (nI an) (nI tm) (nI cn) (nI (cs + 1)) (nI bd) (nI lt) (nI nt) fx fy)) (h + 27) (.inl (ca 0, 4, .inl (iN (eUp em 200 cn 250 (cs + 1)))))
                      have he_949 : gm_up (gm_up (gm_up M h (moO h (nI le) bp (nI nr) (nI wh) (nI tl) (nI ne) (nI nf) (nI na) (nI an) (nI tm) (nI cn) (nI (cs + 1)) (nI bd) (nI lt) (nI nt) fx fy)) (h + 27) (.inl (ca 0, 4, .inl (iN (eUp em 200 cn 250 (cs + 1)))))) h (moO h (nI le) bp (nI nr) (nI wh) (nI tl) (nI ne) (nI nf) (nI na) (nI 1) (nI tm) (nI cn) (nI (cs + 1)) (nI bd) (nI (lt + 1)) (nI nt) fx fy) = gm_up (gm_up M h (moO h (nI le) bp (nI nr) (nI wh) (nI tl) (nI ne) (nI nf) (nI na) (nI 1) (nI tm) (nI cn) (nI (cs + 1)) (nI bd) (nI (lt + 1)) (nI nt) fx fy)) (h + 27) (.inl (ca 0, 4, .inl (iN (eUp em 200 cn 250 (cs + 1))))) := (gm_swap (gm_ne h_948 h_947 (fun h => by cases h))).trans (congrArg (fun Z => gm_up Z (h + 27) (.inl (ca 0, 4, .inl (iN (eUp em 200 cn 250 (cs + 1)))))) (gm_up_up _ _ _ _))
                      have hP := Eq.mp (congrArg (fun Z => gm_P D cls A N (Z) H) he_949) hP
                      have hP : gm_P D cls A N (gm_up (gm_up M h (moO h (nI le) bp (nI nr) (nI wh) (nI tl) (nI ne) (nI nf) (nI na) (nI 1) (nI tm) (nI cn) (nI (cs + 1)) (nI bd) (nI (lt + 1)) (nI nt) fx fy)) (h + 27) (.inl (ca 0, 4, .inl (iN (eUp em 200 cn 250 (cs + 1)))))) H := hP
                      have h_950 := (congrFun he_949 _).symm.trans (gm_pass (k := h) (y := moO h (nI le) bp (nI nr) (nI wh) (nI tl) (nI ne) (nI nf) (nI na) (nI 1) (nI tm) (nI cn) (nI (cs + 1)) (nI bd) (nI (lt + 1)) (nI nt) fx fy) h_927 (gm_ne h_927 h_947 (fun h => by cases h)))
                      have h_951 := (congrFun he_949 _).symm.trans (gm_pass (k := h) (y := moO h (nI le) bp (nI nr) (nI wh) (nI tl) (nI ne) (nI nf) (nI na) (nI 1) (nI tm) (nI cn) (nI (cs + 1)) (nI bd) (nI (lt + 1)) (nI nt) fx fy) h_928 (gm_ne h_928 h_947 (fun h => by cases h)))
                      have h_952 := (congrFun he_949 _).symm.trans (gm_pass (k := h) (y := moO h (nI le) bp (nI nr) (nI wh) (nI tl) (nI ne) (nI nf) (nI na) (nI 1) (nI tm) (nI cn) (nI (cs + 1)) (nI bd) (nI (lt + 1)) (nI nt) fx fy) h_929 (gm_ne h_929 h_947 (fun h => by cases h)))
                      have h_953 := (congrFun he_949 _).symm.trans (gm_pass (k := h) (y := moO h (nI le) bp (nI nr) (nI wh) (nI tl) (nI ne) (nI nf) (nI na) (nI 1) (nI tm) (nI cn) (nI (cs + 1)) (nI bd) (nI (lt + 1)) (nI nt) fx fy) h_930 (gm_ne h_930 h_947 (fun h => by cases h)))
                      have h_954 := (congrFun he_949 _).symm.trans (gm_pass (k := h) (y := moO h (nI le) bp (nI nr) (nI wh) (nI tl) (nI ne) (nI nf) (nI na) (nI 1) (nI tm) (nI cn) (nI (cs + 1)) (nI bd) (nI (lt + 1)) (nI nt) fx fy) h_931 (gm_ne h_931 h_947 (fun h => by cases h)))
                      have h_955 := (congrFun he_949 _).symm.trans (gm_pass (k := h) (y := moO h (nI le) bp (nI nr) (nI wh) (nI tl) (nI ne) (nI nf) (nI na) (nI 1) (nI tm) (nI cn) (nI (cs + 1)) (nI bd) (nI (lt + 1)) (nI nt) fx fy) h_932 (gm_ne h_932 h_947 (fun h => by cases h)))
                      have h_956 := (congrFun he_949 _).symm.trans (gm_pass (k := h) (y := moO h (nI le) bp (nI nr) (nI wh) (nI tl) (nI ne) (nI nf) (nI na) (nI 1) (nI tm) (nI cn) (nI (cs + 1)) (nI bd) (nI (lt + 1)) (nI nt) fx fy) h_933 (gm_ne h_933 h_947 (fun h => by cases h)))
                      have h_957 := (congrFun he_949 _).symm.trans (gm_pass (k := h) (y := moO h (nI le) bp (nI nr) (nI wh) (nI tl) (nI ne) (nI nf) (nI na) (nI 1) (nI tm) (nI cn) (nI (cs + 1)) (nI bd) (nI (lt + 1)) (nI nt) fx fy) h_934 (gm_ne h_934 h_947 (fun h => by cases h)))
                      have h_958 := (congrFun he_949 _).symm.trans (gm_pass (k := h) (y := moO h (nI le) bp (nI nr) (nI wh) (nI tl) (nI ne) (nI nf) (nI na) (nI 1) (nI tm) (nI cn) (nI (cs + 1)) (nI bd) (nI (lt + 1)) (nI nt) fx fy) h_935 (gm_ne h_935 h_947 (fun h => by cases h)))
                      have h_959 := (congrFun he_949 _).symm.trans (gm_pass (k := h) (y := moO h (nI le) bp (nI nr) (nI wh) (nI tl) (nI ne) (nI nf) (nI na) (nI 1) (nI tm) (nI cn) (nI (cs + 1)) (nI bd) (nI (lt + 1)) (nI nt) fx fy) h_936 (gm_ne h_936 h_947 (fun h => by cases h)))
                      have h_960 := (congrFun he_949 _).symm.trans (gm_pass (k := h) (y := moO h (nI le) bp (nI nr) (nI wh) (nI tl) (nI ne) (nI nf) (nI na) (nI 1) (nI tm) (nI cn) (nI (cs + 1)) (nI bd) (nI (lt + 1)) (nI nt) fx fy) h_937 (gm_ne h_937 h_947 (fun h => by cases h)))
                      have h_961 := (congrFun he_949 _).symm.trans (gm_pass (k := h) (y := moO h (nI le) bp (nI nr) (nI wh) (nI tl) (nI ne) (nI nf) (nI na) (nI 1) (nI tm) (nI cn) (nI (cs + 1)) (nI bd) (nI (lt + 1)) (nI nt) fx fy) h_938 (gm_ne h_938 h_947 (fun h => by cases h)))
                      have h_962 := (congrFun he_949 _).symm.trans (gm_pass (k := h) (y := moO h (nI le) bp (nI nr) (nI wh) (nI tl) (nI ne) (nI nf) (nI na) (nI 1) (nI tm) (nI cn) (nI (cs + 1)) (nI bd) (nI (lt + 1)) (nI nt) fx fy) h_939 (gm_ne h_939 h_947 (fun h => by cases h)))
                      have h_963 := (congrFun he_949 _).symm.trans (gm_pass (k := h) (y := moO h (nI le) bp (nI nr) (nI wh) (nI tl) (nI ne) (nI nf) (nI na) (nI 1) (nI tm) (nI cn) (nI (cs + 1)) (nI bd) (nI (lt + 1)) (nI nt) fx fy) h_940 (gm_ne h_940 h_947 (fun h => by cases h)))
                      have h_964 := (congrFun he_949 _).symm.trans (gm_pass (k := h) (y := moO h (nI le) bp (nI nr) (nI wh) (nI tl) (nI ne) (nI nf) (nI na) (nI 1) (nI tm) (nI cn) (nI (cs + 1)) (nI bd) (nI (lt + 1)) (nI nt) fx fy) h_941 (gm_ne h_941 h_947 (fun h => by cases h)))
                      have h_965 := (congrFun he_949 _).symm.trans (gm_pass (k := h) (y := moO h (nI le) bp (nI nr) (nI wh) (nI tl) (nI ne) (nI nf) (nI na) (nI 1) (nI tm) (nI cn) (nI (cs + 1)) (nI bd) (nI (lt + 1)) (nI nt) fx fy) h_942 (gm_ne h_942 h_947 (fun h => by cases h)))
                      have h_966 := (congrFun he_949 _).symm.trans (gm_pass (k := h) (y := moO h (nI le) bp (nI nr) (nI wh) (nI tl) (nI ne) (nI nf) (nI na) (nI 1) (nI tm) (nI cn) (nI (cs + 1)) (nI bd) (nI (lt + 1)) (nI nt) fx fy) h_943 (gm_ne h_943 h_947 (fun h => by cases h)))
                      have h_967 := (congrFun he_949 _).symm.trans (gm_pass (k := h) (y := moO h (nI le) bp (nI nr) (nI wh) (nI tl) (nI ne) (nI nf) (nI na) (nI 1) (nI tm) (nI cn) (nI (cs + 1)) (nI bd) (nI (lt + 1)) (nI nt) fx fy) h_944 (gm_ne h_944 h_947 (fun h => by cases h)))
                      have h_968 := (congrFun he_949 _).symm.trans (gm_pass (k := h) (y := moO h (nI le) bp (nI nr) (nI wh) (nI tl) (nI ne) (nI nf) (nI na) (nI 1) (nI tm) (nI cn) (nI (cs + 1)) (nI bd) (nI (lt + 1)) (nI nt) fx fy) h_945 (gm_ne h_945 h_947 (fun h => by cases h)))
                      have h_969 := (congrFun he_949 _).symm.trans (gm_pass (k := h) (y := moO h (nI le) bp (nI nr) (nI wh) (nI tl) (nI ne) (nI nf) (nI na) (nI 1) (nI tm) (nI cn) (nI (cs + 1)) (nI bd) (nI (lt + 1)) (nI nt) fx fy) h_946 (gm_ne h_946 h_947 (fun h => by cases h)))
                      have h_970 := (congrFun he_949 _).symm.trans (gm_pass (k := h) (y := moO h (nI le) bp (nI nr) (nI wh) (nI tl) (nI ne) (nI nf) (nI na) (nI 1) (nI tm) (nI cn) (nI (cs + 1)) (nI bd) (nI (lt + 1)) (nI nt) fx fy) h_948 (gm_ne h_948 h_947 (fun h => by cases h)))
                      have h_971 := (congrFun he_949 _).symm.trans (gm_up_self (gm_up (gm_up M h (moO h (nI le) bp (nI nr) (nI wh) (nI tl) (nI ne) (nI nf) (nI na) (nI an) (nI tm) (nI cn) (nI (cs + 1)) (nI bd) (nI lt) (nI nt) fx fy)) (h + 27) (.inl (ca 0, 4, .inl (iN (eUp em 200 cn 250 (cs + 1)))))) h (moO h (nI le) bp (nI nr) (nI wh) (nI tl) (nI ne) (nI nf) (nI na) (nI 1) (nI tm) (nI cn) (nI (cs + 1)) (nI bd) (nI (lt + 1)) (nI nt) fx fy))
                      refine W.eq (g2 := F0 m 235 ls [.int (nI 1)]) rfl ?_
                      rw [← hQ]
                      exact gc_iret hx hb hr hlk hP hS d_Mo_outward_235 ⟨rfl, Or.inr ⟨pr0, f0, (nI 1), fl, nf, (eUp em 200 cn 250 (cs + 1)), (cs + 1), (lt + 1), nt, 1, mq, fx, fy, ⟨rfl, hpr0⟩, ⟨rfl, hf0⟩, (by unfold outF; rw [if_neg (by omega), c_17]; simp only [hp_478]; rw [if_neg (by omega), if_pos (by omega), if_neg (by omega)]), hRF, (Or.inl ⟨by decide, rfl, rfl, rfl⟩), h_971, h_960, h_961, h_962, h_963, h_964, h_965, h_966, h_967, h_968, h_969, h_970, (fun z q0 q1 q2 q3 q4 q5 q6 q7 q8 q9 q10 q11 => (gm_up_ne _ _ q11).trans ((gm_up_ne _ _ q0).trans (rfl))), rfl⟩⟩
                    · skip
                      refine lv_aload_n hx hb d_Mo_outward_199 rfl (lv_at hl 3 rfl) ?_
                      refine lv_bipush (v := (-11)) hx hb d_Mo_outward_200 (by decide) ?_
                      refine gc_V (q := (R_Mo, F_Mo, 44)) (n := 1) [.int (-11)] [] hx hb hml hown hts hK hN hX hP hS (c_Mo_stop (-11) eh) rfl eh k_959 k_961 ks_Mo_stop k_10 k_962 (by decide +kernel) ⟨by decide, by decide⟩ rfl hl.1 rfl (Nat.le_of_ble_eq_true rfl) d_Mo_outward_202 ⟨by decide, by decide⟩ (fun r N1 M_972 H locs hw hP hS => ?_)
                      obtain ⟨rfl, hw⟩ := hw
                      obtain ⟨rfl, rfl⟩ := hw
                      have hP : gm_P D cls A N (gm_up M h (moO h (nI le) bp (nI nr) (nI wh) (nI tl) (nI ne) (nI nf) (nI na) (nI an) (nI tm) (nI cn) (nI cs) (nI bd) (nI lt) (nI (nt + 1)) fx fy)) H := hP
                      have h_973 := gm_pass (k := h) (y := moO h (nI le) bp (nI nr) (nI wh) (nI tl) (nI ne) (nI nf) (nI na) (nI an) (nI tm) (nI cn) (nI cs) (nI bd) (nI lt) (nI (nt + 1)) fx fy) m2 (gm_ne m2 eh (fun h => by cases h))
                      have h_974 := gm_pass (k := h) (y := moO h (nI le) bp (nI nr) (nI wh) (nI tl) (nI ne) (nI nf) (nI na) (nI an) (nI tm) (nI cn) (nI cs) (nI bd) (nI lt) (nI (nt + 1)) fx fy) m3 (gm_ne m3 eh (fun h => by cases h))
                      have h_975 := gm_pass (k := h) (y := moO h (nI le) bp (nI nr) (nI wh) (nI tl) (nI ne) (nI nf) (nI na) (nI an) (nI tm) (nI cn) (nI cs) (nI bd) (nI lt) (nI (nt + 1)) fx fy) m4 (gm_ne m4 eh (fun h => by cases h))
                      have h_976 := gm_pass (k := h) (y := moO h (nI le) bp (nI nr) (nI wh) (nI tl) (nI ne) (nI nf) (nI na) (nI an) (nI tm) (nI cn) (nI cs) (nI bd) (nI lt) (nI (nt + 1)) fx fy) m5 (gm_ne m5 eh (fun h => by cases h))
                      have h_977 := gm_pass (k := h) (y := moO h (nI le) bp (nI nr) (nI wh) (nI tl) (nI ne) (nI nf) (nI na) (nI an) (nI tm) (nI cn) (nI cs) (nI bd) (nI lt) (nI (nt + 1)) fx fy) m6 (gm_ne m6 eh (fun h => by cases h))
                      have h_978 := gm_pass (k := h) (y := moO h (nI le) bp (nI nr) (nI wh) (nI tl) (nI ne) (nI nf) (nI na) (nI an) (nI tm) (nI cn) (nI cs) (nI bd) (nI lt) (nI (nt + 1)) fx fy) m26 (gm_ne m26 eh (fun h => by cases h))
                      have h_979 := gm_pass (k := h) (y := moO h (nI le) bp (nI nr) (nI wh) (nI tl) (nI ne) (nI nf) (nI na) (nI an) (nI tm) (nI cn) (nI cs) (nI bd) (nI lt) (nI (nt + 1)) fx fy) m27 (gm_ne m27 eh (fun h => by cases h))
                      have h_980 := gm_pass (k := h) (y := moO h (nI le) bp (nI nr) (nI wh) (nI tl) (nI ne) (nI nf) (nI na) (nI an) (nI tm) (nI cn) (nI cs) (nI bd) (nI lt) (nI (nt + 1)) fx fy) m10 (gm_ne m10 eh (fun h => by cases h))
                      have h_981 := gm_pass (k := h) (y := moO h (nI le) bp (nI nr) (nI wh) (nI tl) (nI ne) (nI nf) (nI na) (nI an) (nI tm) (nI cn) (nI cs) (nI bd) (nI lt) (nI (nt + 1)) fx fy) m11 (gm_ne m11 eh (fun h => by cases h))
                      have h_982 := gm_pass (k := h) (y := moO h (nI le) bp (nI nr) (nI wh) (nI tl) (nI ne) (nI nf) (nI na) (nI an) (nI tm) (nI cn) (nI cs) (nI bd) (nI lt) (nI (nt + 1)) fx fy) m12 (gm_ne m12 eh (fun h => by cases h))
                      have h_983 := gm_pass (k := h) (y := moO h (nI le) bp (nI nr) (nI wh) (nI tl) (nI ne) (nI nf) (nI na) (nI an) (nI tm) (nI cn) (nI cs) (nI bd) (nI lt) (nI (nt + 1)) fx fy) m13 (gm_ne m13 eh (fun h => by cases h))
                      have h_984 := gm_pass (k := h) (y := moO h (nI le) bp (nI nr) (nI wh) (nI tl) (nI ne) (nI nf) (nI na) (nI an) (nI tm) (nI cn) (nI cs) (nI bd) (nI lt) (nI (nt + 1)) fx fy) m14 (gm_ne m14 eh (fun h => by cases h))
                      have h_985 := gm_pass (k := h) (y := moO h (nI le) bp (nI nr) (nI wh) (nI tl) (nI ne) (nI nf) (nI na) (nI an) (nI tm) (nI cn) (nI cs) (nI bd) (nI lt) (nI (nt + 1)) fx fy) m15 (gm_ne m15 eh (fun h => by cases h))
                      have h_986 := gm_pass (k := h) (y := moO h (nI le) bp (nI nr) (nI wh) (nI tl) (nI ne) (nI nf) (nI na) (nI an) (nI tm) (nI cn) (nI cs) (nI bd) (nI lt) (nI (nt + 1)) fx fy) m16 (gm_ne m16 eh (fun h => by cases h))
                      have h_987 := gm_pass (k := h) (y := moO h (nI le) bp (nI nr) (nI wh) (nI tl) (nI ne) (nI nf) (nI na) (nI an) (nI tm) (nI cn) (nI cs) (nI bd) (nI lt) (nI (nt + 1)) fx fy) m17 (gm_ne m17 eh (fun h => by cases h))
                      have h_988 := gm_pass (k := h) (y := moO h (nI le) bp (nI nr) (nI wh) (nI tl) (nI ne) (nI nf) (nI na) (nI an) (nI tm) (nI cn) (nI cs) (nI bd) (nI lt) (nI (nt + 1)) fx fy) m18 (gm_ne m18 eh (fun h => by cases h))
                      have h_989 := gm_pass (k := h) (y := moO h (nI le) bp (nI nr) (nI wh) (nI tl) (nI ne) (nI nf) (nI na) (nI an) (nI tm) (nI cn) (nI cs) (nI bd) (nI lt) (nI (nt + 1)) fx fy) m19 (gm_ne m19 eh (fun h => by cases h))
                      have h_990 := gm_pass (k := h) (y := moO h (nI le) bp (nI nr) (nI wh) (nI tl) (nI ne) (nI nf) (nI na) (nI an) (nI tm) (nI cn) (nI cs) (nI bd) (nI lt) (nI (nt + 1)) fx fy) m20 (gm_ne m20 eh (fun h => by cases h))
                      have h_991 := gm_pass (k := h) (y := moO h (nI le) bp (nI nr) (nI wh) (nI tl) (nI ne) (nI nf) (nI na) (nI an) (nI tm) (nI cn) (nI cs) (nI bd) (nI lt) (nI (nt + 1)) fx fy) m21 (gm_ne m21 eh (fun h => by cases h))
                      have h_992 := gm_pass (k := h) (y := moO h (nI le) bp (nI nr) (nI wh) (nI tl) (nI ne) (nI nf) (nI na) (nI an) (nI tm) (nI cn) (nI cs) (nI bd) (nI lt) (nI (nt + 1)) fx fy) m22 (gm_ne m22 eh (fun h => by cases h))
                      have h_993 := gm_pass (k := h) (y := moO h (nI le) bp (nI nr) (nI wh) (nI tl) (nI ne) (nI nf) (nI na) (nI an) (nI tm) (nI cn) (nI cs) (nI bd) (nI lt) (nI (nt + 1)) fx fy) m23 (gm_ne m23 eh (fun h => by cases h))
                      have h_994 := gm_up_self M h (moO h (nI le) bp (nI nr) (nI wh) (nI tl) (nI ne) (nI nf) (nI na) (nI an) (nI tm) (nI cn) (nI cs) (nI bd) (nI lt) (nI (nt + 1)) fx fy)
                      refine W.eq (g2 := F0 m 205 ls [.int (-11)]) rfl ?_
                      rw [← hQ]
                      exact gc_iret hx hb hr hlk hP hS d_Mo_outward_205 ⟨rfl, Or.inr ⟨pr0, f0, (-11), fl, nf, em, cs, lt, (nt + 1), an, mq, fx, fy, ⟨rfl, hpr0⟩, ⟨rfl, hf0⟩, (by unfold outF; rw [if_neg (by omega), c_17]; simp only [hp_478]; rw [if_neg (by omega), if_pos (by omega), if_pos (by omega)]), hRF, (Or.inr ⟨by decide, rfl, rfl, rfl⟩), h_994, h_984, h_985, h_986, h_987, h_988, h_989, h_990, h_991, h_992, h_993, h_979, (fun z q0 q1 q2 q3 q4 q5 q6 q7 q8 q9 q10 q11 => (gm_up_ne _ _ q0).trans (rfl)), rfl⟩⟩
                · skip
                  refine lv_aload_n hx hb d_Mo_outward_177 rfl (lv_at hl 3 rfl) ?_
                  refine lv_bipush (v := (-4)) hx hb d_Mo_outward_178 (by decide) ?_
                  refine gc_V (q := (R_Mo, F_Mo, 44)) (n := 1) [.int (-4)] [] hx hb hml hown hts hK hN hX hP hS (c_Mo_stop (-4) eh) rfl eh k_959 k_961 ks_Mo_stop k_10 k_962 (by decide +kernel) ⟨by decide, by decide⟩ rfl hl.1 rfl (Nat.le_of_ble_eq_true rfl) d_Mo_outward_180 ⟨by decide, by decide⟩ (fun r N1 M_995 H locs hw hP hS => ?_)
                  obtain ⟨rfl, hw⟩ := hw
                  obtain ⟨rfl, rfl⟩ := hw
                  have hP : gm_P D cls A N (gm_up M h (moO h (nI le) bp (nI nr) (nI wh) (nI tl) (nI ne) (nI nf) (nI na) (nI an) (nI tm) (nI cn) (nI cs) (nI bd) (nI lt) (nI (nt + 1)) fx fy)) H := hP
                  have h_996 := gm_pass (k := h) (y := moO h (nI le) bp (nI nr) (nI wh) (nI tl) (nI ne) (nI nf) (nI na) (nI an) (nI tm) (nI cn) (nI cs) (nI bd) (nI lt) (nI (nt + 1)) fx fy) m2 (gm_ne m2 eh (fun h => by cases h))
                  have h_997 := gm_pass (k := h) (y := moO h (nI le) bp (nI nr) (nI wh) (nI tl) (nI ne) (nI nf) (nI na) (nI an) (nI tm) (nI cn) (nI cs) (nI bd) (nI lt) (nI (nt + 1)) fx fy) m3 (gm_ne m3 eh (fun h => by cases h))
                  have h_998 := gm_pass (k := h) (y := moO h (nI le) bp (nI nr) (nI wh) (nI tl) (nI ne) (nI nf) (nI na) (nI an) (nI tm) (nI cn) (nI cs) (nI bd) (nI lt) (nI (nt + 1)) fx fy) m4 (gm_ne m4 eh (fun h => by cases h))
                  have h_999 := gm_pass (k := h) (y := moO h (nI le) bp (nI nr) (nI wh) (nI tl) (nI ne) (nI nf) (nI na) (nI an) (nI tm) (nI cn) (nI cs) (nI bd) (nI lt) (nI (nt + 1)) fx fy) m5 (gm_ne m5 eh (fun h => by cases h))
                  have h_1000 := gm_pass (k := h) (y := moO h (nI le) bp (nI nr) (nI wh) (nI tl) (nI ne) (nI nf) (nI na) (nI an) (nI tm) (nI cn) (nI cs) (nI bd) (nI lt) (nI (nt + 1)) fx fy) m6 (gm_ne m6 eh (fun h => by cases h))
                  have h_1001 := gm_pass (k := h) (y := moO h (nI le) bp (nI nr) (nI wh) (nI tl) (nI ne) (nI nf) (nI na) (nI an) (nI tm) (nI cn) (nI cs) (nI bd) (nI lt) (nI (nt + 1)) fx fy) m26 (gm_ne m26 eh (fun h => by cases h))
                  have h_1002 := gm_pass (k := h) (y := moO h (nI le) bp (nI nr) (nI wh) (nI tl) (nI ne) (nI nf) (nI na) (nI an) (nI tm) (nI cn) (nI cs) (nI bd) (nI lt) (nI (nt + 1)) fx fy) m27 (gm_ne m27 eh (fun h => by cases h))
                  have h_1003 := gm_pass (k := h) (y := moO h (nI le) bp (nI nr) (nI wh) (nI tl) (nI ne) (nI nf) (nI na) (nI an) (nI tm) (nI cn) (nI cs) (nI bd) (nI lt) (nI (nt + 1)) fx fy) m10 (gm_ne m10 eh (fun h => by cases h))
                  have h_1004 := gm_pass (k := h) (y := moO h (nI le) bp (nI nr) (nI wh) (nI tl) (nI ne) (nI nf) (nI na) (nI an) (nI tm) (nI cn) (nI cs) (nI bd) (nI lt) (nI (nt + 1)) fx fy) m11 (gm_ne m11 eh (fun h => by cases h))
                  have h_1005 := gm_pass (k := h) (y := moO h (nI le) bp (nI nr) (nI wh) (nI tl) (nI ne) (nI nf) (nI na) (nI an) (nI tm) (nI cn) (nI cs) (nI bd) (nI lt) (nI (nt + 1)) fx fy) m12 (gm_ne m12 eh (fun h => by cases h))
                  have h_1006 := gm_pass (k := h) (y := moO h (nI le) bp (nI nr) (nI wh) (nI tl) (nI ne) (nI nf) (nI na) (nI an) (nI tm) (nI cn) (nI cs) (nI bd) (nI lt) (nI (nt + 1)) fx fy) m13 (gm_ne m13 eh (fun h => by cases h))
                  have h_1007 := gm_pass (k := h) (y := moO h (nI le) bp (nI nr) (nI wh) (nI tl) (nI ne) (nI nf) (nI na) (nI an) (nI tm) (nI cn) (nI cs) (nI bd) (nI lt) (nI (nt + 1)) fx fy) m14 (gm_ne m14 eh (fun h => by cases h))
                  have h_1008 := gm_pass (k := h) (y := moO h (nI le) bp (nI nr) (nI wh) (nI tl) (nI ne) (nI nf) (nI na) (nI an) (nI tm) (nI cn) (nI cs) (nI bd) (nI lt) (nI (nt + 1)) fx fy) m15 (gm_ne m15 eh (fun h => by cases h))
                  have h_1009 := gm_pass (k := h) (y := moO h (nI le) bp (nI nr) (nI wh) (nI tl) (nI ne) (nI nf) (nI na) (nI an) (nI tm) (nI cn) (nI cs) (nI bd) (nI lt) (nI (nt + 1)) fx fy) m16 (gm_ne m16 eh (fun h => by cases h))
                  have h_1010 := gm_pass (k := h) (y := moO h (nI le) bp (nI nr) (nI wh) (nI tl) (nI ne) (nI nf) (nI na) (nI an) (nI tm) (nI cn) (nI cs) (nI bd) (nI lt) (nI (nt + 1)) fx fy) m17 (gm_ne m17 eh (fun h => by cases h))
                  have h_1011 := gm_pass (k := h) (y := moO h (nI le) bp (nI nr) (nI wh) (nI tl) (nI ne) (nI nf) (nI na) (nI an) (nI tm) (nI cn) (nI cs) (nI bd) (nI lt) (nI (nt + 1)) fx fy) m18 (gm_ne m18 eh (fun h => by cases h))
                  have h_1012 := gm_pass (k := h) (y := moO h (nI le) bp (nI nr) (nI wh) (nI tl) (nI ne) (nI nf) (nI na) (nI an) (nI tm) (nI cn) (nI cs) (nI bd) (nI lt) (nI (nt + 1)) fx fy) m19 (gm_ne m19 eh (fun h => by cases h))
                  have h_1013 := gm_pass (k := h) (y := moO h (nI le) bp (nI nr) (nI wh) (nI tl) (nI ne) (nI nf) (nI na) (nI an) (nI tm) (nI cn) (nI cs) (nI bd) (nI lt) (nI (nt + 1)) fx fy) m20 (gm_ne m20 eh (fun h => by cases h))
                  have h_1014 := gm_pass (k := h) (y := moO h (nI le) bp (nI nr) (nI wh) (nI tl) (nI ne) (nI nf) (nI na) (nI an) (nI tm) (nI cn) (nI cs) (nI bd) (nI lt) (nI (nt + 1)) fx fy) m21 (gm_ne m21 eh (fun h => by cases h))
                  have h_1015 := gm_pass (k := h) (y := moO h (nI le) bp (nI nr) (nI wh) (nI tl) (nI ne) (nI nf) (nI na) (nI an) (nI tm) (nI cn) (nI cs) (nI bd) (nI lt) (nI (nt + 1)) fx fy) m22 (gm_ne m22 eh (fun h => by cases h))
                  have h_1016 := gm_pass (k := h) (y := moO h (nI le) bp (nI nr) (nI wh) (nI tl) (nI ne) (nI nf) (nI na) (nI an) (nI tm) (nI cn) (nI cs) (nI bd) (nI lt) (nI (nt + 1)) fx fy) m23 (gm_ne m23 eh (fun h => by cases h))
                  have h_1017 := gm_up_self M h (moO h (nI le) bp (nI nr) (nI wh) (nI tl) (nI ne) (nI nf) (nI na) (nI an) (nI tm) (nI cn) (nI cs) (nI bd) (nI lt) (nI (nt + 1)) fx fy)
                  refine W.eq (g2 := F0 m 183 ls [.int (-4)]) rfl ?_
                  rw [← hQ]
                  exact gc_iret hx hb hr hlk hP hS d_Mo_outward_183 ⟨rfl, Or.inr ⟨pr0, f0, (-4), fl, nf, em, cs, lt, (nt + 1), an, mq, fx, fy, ⟨rfl, hpr0⟩, ⟨rfl, hf0⟩, (by unfold outF; rw [if_neg (by omega), c_17]; simp only [hp_478]; rw [if_pos (by omega)]), hRF, (Or.inr ⟨by decide, rfl, rfl, rfl⟩), h_1017, h_1007, h_1008, h_1009, h_1010, h_1011, h_1012, h_1013, h_1014, h_1015, h_1016, h_1002, (fun z q0 q1 q2 q3 q4 q5 q6 q7 q8 q9 q10 q11 => (gm_up_ne _ _ q0).trans (rfl)), rfl⟩⟩
          · skip
            refine W.eq (g2 := F0 m 40 ls [.int (nI 0)]) rfl ?_
            refine lv_if_ne (tgt := 50) hx hb d_Mo_outward_40 (by decide) (fun q => absurd q (by decide)) (fun _ => ?_)
            refine lv_aload_n hx hb d_Mo_outward_43 rfl (lv_at hl 0 rfl) ?_
            refine lv_bipush (v := (-5)) hx hb d_Mo_outward_44 (by decide) ?_
            refine gc_V (q := (R_Mo, F_Mo, 44)) (n := 1) [.int (-5)] [] hx hb hml hown hts hK hN hX hP hS (c_Mo_stop (-5) eh) rfl eh k_959 k_961 ks_Mo_stop k_10 k_962 (by decide +kernel) ⟨by decide, by decide⟩ rfl hl.1 rfl (Nat.le_of_ble_eq_true rfl) d_Mo_outward_46 ⟨by decide, by decide⟩ (fun r N1 M_1018 H locs hw hP hS => ?_)
            obtain ⟨rfl, hw⟩ := hw
            obtain ⟨rfl, rfl⟩ := hw
            have hP : gm_P D cls A N (gm_up M h (moO h (nI le) bp (nI nr) (nI wh) (nI tl) (nI ne) (nI nf) (nI na) (nI an) (nI tm) (nI cn) (nI cs) (nI bd) (nI lt) (nI (nt + 1)) fx fy)) H := hP
            have h_1019 := gm_pass (k := h) (y := moO h (nI le) bp (nI nr) (nI wh) (nI tl) (nI ne) (nI nf) (nI na) (nI an) (nI tm) (nI cn) (nI cs) (nI bd) (nI lt) (nI (nt + 1)) fx fy) m2 (gm_ne m2 eh (fun h => by cases h))
            have h_1020 := gm_pass (k := h) (y := moO h (nI le) bp (nI nr) (nI wh) (nI tl) (nI ne) (nI nf) (nI na) (nI an) (nI tm) (nI cn) (nI cs) (nI bd) (nI lt) (nI (nt + 1)) fx fy) m3 (gm_ne m3 eh (fun h => by cases h))
            have h_1021 := gm_pass (k := h) (y := moO h (nI le) bp (nI nr) (nI wh) (nI tl) (nI ne) (nI nf) (nI na) (nI an) (nI tm) (nI cn) (nI cs) (nI bd) (nI lt) (nI (nt + 1)) fx fy) m4 (gm_ne m4 eh (fun h => by cases h))
            have h_1022 := gm_pass (k := h) (y := moO h (nI le) bp (nI nr) (nI wh) (nI tl) (nI ne) (nI nf) (nI na) (nI an) (nI tm) (nI cn) (nI cs) (nI bd) (nI lt) (nI (nt + 1)) fx fy) m5 (gm_ne m5 eh (fun h => by cases h))
            have h_1023 := gm_pass (k := h) (y := moO h (nI le) bp (nI nr) (nI wh) (nI tl) (nI ne) (nI nf) (nI na) (nI an) (nI tm) (nI cn) (nI cs) (nI bd) (nI lt) (nI (nt + 1)) fx fy) m6 (gm_ne m6 eh (fun h => by cases h))
            have h_1024 := gm_pass (k := h) (y := moO h (nI le) bp (nI nr) (nI wh) (nI tl) (nI ne) (nI nf) (nI na) (nI an) (nI tm) (nI cn) (nI cs) (nI bd) (nI lt) (nI (nt + 1)) fx fy) m26 (gm_ne m26 eh (fun h => by cases h))
            have h_1025 := gm_pass (k := h) (y := moO h (nI le) bp (nI nr) (nI wh) (nI tl) (nI ne) (nI nf) (nI na) (nI an) (nI tm) (nI cn) (nI cs) (nI bd) (nI lt) (nI (nt + 1)) fx fy) m27 (gm_ne m27 eh (fun h => by cases h))
            have h_1026 := gm_pass (k := h) (y := moO h (nI le) bp (nI nr) (nI wh) (nI tl) (nI ne) (nI nf) (nI na) (nI an) (nI tm) (nI cn) (nI cs) (nI bd) (nI lt) (nI (nt + 1)) fx fy) m10 (gm_ne m10 eh (fun h => by cases h))
            have h_1027 := gm_pass (k := h) (y := moO h (nI le) bp (nI nr) (nI wh) (nI tl) (nI ne) (nI nf) (nI na) (nI an) (nI tm) (nI cn) (nI cs) (nI bd) (nI lt) (nI (nt + 1)) fx fy) m11 (gm_ne m11 eh (fun h => by cases h))
            have h_1028 := gm_pass (k := h) (y := moO h (nI le) bp (nI nr) (nI wh) (nI tl) (nI ne) (nI nf) (nI na) (nI an) (nI tm) (nI cn) (nI cs) (nI bd) (nI lt) (nI (nt + 1)) fx fy) m12 (gm_ne m12 eh (fun h => by cases h))
            have h_1029 := gm_pass (k := h) (y := moO h (nI le) bp (nI nr) (nI wh) (nI tl) (nI ne) (nI nf) (nI na) (nI an) (nI tm) (nI cn) (nI cs) (nI bd) (nI lt) (nI (nt + 1)) fx fy) m13 (gm_ne m13 eh (fun h => by cases h))
            have h_1030 := gm_pass (k := h) (y := moO h (nI le) bp (nI nr) (nI wh) (nI tl) (nI ne) (nI nf) (nI na) (nI an) (nI tm) (nI cn) (nI cs) (nI bd) (nI lt) (nI (nt + 1)) fx fy) m14 (gm_ne m14 eh (fun h => by cases h))
            have h_1031 := gm_pass (k := h) (y := moO h (nI le) bp (nI nr) (nI wh) (nI tl) (nI ne) (nI nf) (nI na) (nI an) (nI tm) (nI cn) (nI cs) (nI bd) (nI lt) (nI (nt + 1)) fx fy) m15 (gm_ne m15 eh (fun h => by cases h))
            have h_1032 := gm_pass (k := h) (y := moO h (nI le) bp (nI nr) (nI wh) (nI tl) (nI ne) (nI nf) (nI na) (nI an) (nI tm) (nI cn) (nI cs) (nI bd) (nI lt) (nI (nt + 1)) fx fy) m16 (gm_ne m16 eh (fun h => by cases h))
            have h_1033 := gm_pass (k := h) (y := moO h (nI le) bp (nI nr) (nI wh) (nI tl) (nI ne) (nI nf) (nI na) (nI an) (nI tm) (nI cn) (nI cs) (nI bd) (nI lt) (nI (nt + 1)) fx fy) m17 (gm_ne m17 eh (fun h => by cases h))
            have h_1034 := gm_pass (k := h) (y := moO h (nI le) bp (nI nr) (nI wh) (nI tl) (nI ne) (nI nf) (nI na) (nI an) (nI tm) (nI cn) (nI cs) (nI bd) (nI lt) (nI (nt + 1)) fx fy) m18 (gm_ne m18 eh (fun h => by cases h))
            have h_1035 := gm_pass (k := h) (y := moO h (nI le) bp (nI nr) (nI wh) (nI tl) (nI ne) (nI nf) (nI na) (nI an) (nI tm) (nI cn) (nI cs) (nI bd) (nI lt) (nI (nt + 1)) fx fy) m19 (gm_ne m19 eh (fun h => by cases h))
            have h_1036 := gm_pass (k := h) (y := moO h (nI le) bp (nI nr) (nI wh) (nI tl) (nI ne) (nI nf) (nI na) (nI an) (nI tm) (nI cn) (nI cs) (nI bd) (nI lt) (nI (nt + 1)) fx fy) m20 (gm_ne m20 eh (fun h => by cases h))
            have h_1037 := gm_pass (k := h) (y := moO h (nI le) bp (nI nr) (nI wh) (nI tl) (nI ne) (nI nf) (nI na) (nI an) (nI tm) (nI cn) (nI cs) (nI bd) (nI lt) (nI (nt + 1)) fx fy) m21 (gm_ne m21 eh (fun h => by cases h))
            have h_1038 := gm_pass (k := h) (y := moO h (nI le) bp (nI nr) (nI wh) (nI tl) (nI ne) (nI nf) (nI na) (nI an) (nI tm) (nI cn) (nI cs) (nI bd) (nI lt) (nI (nt + 1)) fx fy) m22 (gm_ne m22 eh (fun h => by cases h))
            have h_1039 := gm_pass (k := h) (y := moO h (nI le) bp (nI nr) (nI wh) (nI tl) (nI ne) (nI nf) (nI na) (nI an) (nI tm) (nI cn) (nI cs) (nI bd) (nI lt) (nI (nt + 1)) fx fy) m23 (gm_ne m23 eh (fun h => by cases h))
            have h_1040 := gm_up_self M h (moO h (nI le) bp (nI nr) (nI wh) (nI tl) (nI ne) (nI nf) (nI na) (nI an) (nI tm) (nI cn) (nI cs) (nI bd) (nI lt) (nI (nt + 1)) fx fy)
            refine W.eq (g2 := F0 m 49 ls [.int (-5)]) rfl ?_
            rw [← hQ]
            exact gc_iret hx hb hr hlk hP hS d_Mo_outward_49 ⟨rfl, Or.inr ⟨pr0, f0, (-5), fl, nf, em, cs, lt, (nt + 1), an, mq, fx, fy, ⟨rfl, hpr0⟩, ⟨rfl, hf0⟩, (by unfold outF; rw [if_pos (by omega)]), hRF, (Or.inr ⟨by decide, rfl, rfl, rfl⟩), h_1040, h_1030, h_1031, h_1032, h_1033, h_1034, h_1035, h_1036, h_1037, h_1038, h_1039, h_1025, (fun z q0 q1 q2 q3 q4 q5 q6 q7 q8 q9 q10 q11 => (gm_up_ne _ _ q0).trans (rfl)), rfl⟩⟩
        · skip
          refine W.eq (g2 := F0 m 28 ls [.int (nI 0)]) rfl ?_
          have b_1041 : ¬ so / 256 ≤ 127 := fun q => c_8 ((inr_nI (by omega) (by decide)).mpr q)
          refine lv_if_eq (tgt := 43) hx hb d_Mo_outward_28 (by decide) (fun _ => ?_) (fun q => absurd q (by decide))
          refine lv_aload_n hx hb d_Mo_outward_43 rfl (lv_at hl 0 rfl) ?_
          refine lv_bipush (v := (-5)) hx hb d_Mo_outward_44 (by decide) ?_
          refine gc_V (q := (R_Mo, F_Mo, 44)) (n := 1) [.int (-5)] [] hx hb hml hown hts hK hN hX hP hS (c_Mo_stop (-5) eh) rfl eh k_959 k_961 ks_Mo_stop k_10 k_962 (by decide +kernel) ⟨by decide, by decide⟩ rfl hl.1 rfl (Nat.le_of_ble_eq_true rfl) d_Mo_outward_46 ⟨by decide, by decide⟩ (fun r N1 M_1042 H locs hw hP hS => ?_)
          obtain ⟨rfl, hw⟩ := hw
          obtain ⟨rfl, rfl⟩ := hw
          have hP : gm_P D cls A N (gm_up M h (moO h (nI le) bp (nI nr) (nI wh) (nI tl) (nI ne) (nI nf) (nI na) (nI an) (nI tm) (nI cn) (nI cs) (nI bd) (nI lt) (nI (nt + 1)) fx fy)) H := hP
          have h_1043 := gm_pass (k := h) (y := moO h (nI le) bp (nI nr) (nI wh) (nI tl) (nI ne) (nI nf) (nI na) (nI an) (nI tm) (nI cn) (nI cs) (nI bd) (nI lt) (nI (nt + 1)) fx fy) m2 (gm_ne m2 eh (fun h => by cases h))
          have h_1044 := gm_pass (k := h) (y := moO h (nI le) bp (nI nr) (nI wh) (nI tl) (nI ne) (nI nf) (nI na) (nI an) (nI tm) (nI cn) (nI cs) (nI bd) (nI lt) (nI (nt + 1)) fx fy) m3 (gm_ne m3 eh (fun h => by cases h))
          have h_1045 := gm_pass (k := h) (y := moO h (nI le) bp (nI nr) (nI wh) (nI tl) (nI ne) (nI nf) (nI na) (nI an) (nI tm) (nI cn) (nI cs) (nI bd) (nI lt) (nI (nt + 1)) fx fy) m4 (gm_ne m4 eh (fun h => by cases h))
          have h_1046 := gm_pass (k := h) (y := moO h (nI le) bp (nI nr) (nI wh) (nI tl) (nI ne) (nI nf) (nI na) (nI an) (nI tm) (nI cn) (nI cs) (nI bd) (nI lt) (nI (nt + 1)) fx fy) m5 (gm_ne m5 eh (fun h => by cases h))
          have h_1047 := gm_pass (k := h) (y := moO h (nI le) bp (nI nr) (nI wh) (nI tl) (nI ne) (nI nf) (nI na) (nI an) (nI tm) (nI cn) (nI cs) (nI bd) (nI lt) (nI (nt + 1)) fx fy) m6 (gm_ne m6 eh (fun h => by cases h))
          have h_1048 := gm_pass (k := h) (y := moO h (nI le) bp (nI nr) (nI wh) (nI tl) (nI ne) (nI nf) (nI na) (nI an) (nI tm) (nI cn) (nI cs) (nI bd) (nI lt) (nI (nt + 1)) fx fy) m26 (gm_ne m26 eh (fun h => by cases h))
          have h_1049 := gm_pass (k := h) (y := moO h (nI le) bp (nI nr) (nI wh) (nI tl) (nI ne) (nI nf) (nI na) (nI an) (nI tm) (nI cn) (nI cs) (nI bd) (nI lt) (nI (nt + 1)) fx fy) m27 (gm_ne m27 eh (fun h => by cases h))
          have h_1050 := gm_pass (k := h) (y := moO h (nI le) bp (nI nr) (nI wh) (nI tl) (nI ne) (nI nf) (nI na) (nI an) (nI tm) (nI cn) (nI cs) (nI bd) (nI lt) (nI (nt + 1)) fx fy) m10 (gm_ne m10 eh (fun h => by cases h))
          have h_1051 := gm_pass (k := h) (y := moO h (nI le) bp (nI nr) (nI wh) (nI tl) (nI ne) (nI nf) (nI na) (nI an) (nI tm) (nI cn) (nI cs) (nI bd) (nI lt) (nI (nt + 1)) fx fy) m11 (gm_ne m11 eh (fun h => by cases h))
          have h_1052 := gm_pass (k := h) (y := moO h (nI le) bp (nI nr) (nI wh) (nI tl) (nI ne) (nI nf) (nI na) (nI an) (nI tm) (nI cn) (nI cs) (nI bd) (nI lt) (nI (nt + 1)) fx fy) m12 (gm_ne m12 eh (fun h => by cases h))
          have h_1053 := gm_pass (k := h) (y := moO h (nI le) bp (nI nr) (nI wh) (nI tl) (nI ne) (nI nf) (nI na) (nI an) (nI tm) (nI cn) (nI cs) (nI bd) (nI lt) (nI (nt + 1)) fx fy) m13 (gm_ne m13 eh (fun h => by cases h))
          have h_1054 := gm_pass (k := h) (y := moO h (nI le) bp (nI nr) (nI wh) (nI tl) (nI ne) (nI nf) (nI na) (nI an) (nI tm) (nI cn) (nI cs) (nI bd) (nI lt) (nI (nt + 1)) fx fy) m14 (gm_ne m14 eh (fun h => by cases h))
          have h_1055 := gm_pass (k := h) (y := moO h (nI le) bp (nI nr) (nI wh) (nI tl) (nI ne) (nI nf) (nI na) (nI an) (nI tm) (nI cn) (nI cs) (nI bd) (nI lt) (nI (nt + 1)) fx fy) m15 (gm_ne m15 eh (fun h => by cases h))
          have h_1056 := gm_pass (k := h) (y := moO h (nI le) bp (nI nr) (nI wh) (nI tl) (nI ne) (nI nf) (nI na) (nI an) (nI tm) (nI cn) (nI cs) (nI bd) (nI lt) (nI (nt + 1)) fx fy) m16 (gm_ne m16 eh (fun h => by cases h))
          have h_1057 := gm_pass (k := h) (y := moO h (nI le) bp (nI nr) (nI wh) (nI tl) (nI ne) (nI nf) (nI na) (nI an) (nI tm) (nI cn) (nI cs) (nI bd) (nI lt) (nI (nt + 1)) fx fy) m17 (gm_ne m17 eh (fun h => by cases h))
          have h_1058 := gm_pass (k := h) (y := moO h (nI le) bp (nI nr) (nI wh) (nI tl) (nI ne) (nI nf) (nI na) (nI an) (nI tm) (nI cn) (nI cs) (nI bd) (nI lt) (nI (nt + 1)) fx fy) m18 (gm_ne m18 eh (fun h => by cases h))
          have h_1059 := gm_pass (k := h) (y := moO h (nI le) bp (nI nr) (nI wh) (nI tl) (nI ne) (nI nf) (nI na) (nI an) (nI tm) (nI cn) (nI cs) (nI bd) (nI lt) (nI (nt + 1)) fx fy) m19 (gm_ne m19 eh (fun h => by cases h))
          have h_1060 := gm_pass (k := h) (y := moO h (nI le) bp (nI nr) (nI wh) (nI tl) (nI ne) (nI nf) (nI na) (nI an) (nI tm) (nI cn) (nI cs) (nI bd) (nI lt) (nI (nt + 1)) fx fy) m20 (gm_ne m20 eh (fun h => by cases h))
          have h_1061 := gm_pass (k := h) (y := moO h (nI le) bp (nI nr) (nI wh) (nI tl) (nI ne) (nI nf) (nI na) (nI an) (nI tm) (nI cn) (nI cs) (nI bd) (nI lt) (nI (nt + 1)) fx fy) m21 (gm_ne m21 eh (fun h => by cases h))
          have h_1062 := gm_pass (k := h) (y := moO h (nI le) bp (nI nr) (nI wh) (nI tl) (nI ne) (nI nf) (nI na) (nI an) (nI tm) (nI cn) (nI cs) (nI bd) (nI lt) (nI (nt + 1)) fx fy) m22 (gm_ne m22 eh (fun h => by cases h))
          have h_1063 := gm_pass (k := h) (y := moO h (nI le) bp (nI nr) (nI wh) (nI tl) (nI ne) (nI nf) (nI na) (nI an) (nI tm) (nI cn) (nI cs) (nI bd) (nI lt) (nI (nt + 1)) fx fy) m23 (gm_ne m23 eh (fun h => by cases h))
          have h_1064 := gm_up_self M h (moO h (nI le) bp (nI nr) (nI wh) (nI tl) (nI ne) (nI nf) (nI na) (nI an) (nI tm) (nI cn) (nI cs) (nI bd) (nI lt) (nI (nt + 1)) fx fy)
          refine W.eq (g2 := F0 m 49 ls [.int (-5)]) rfl ?_
          rw [← hQ]
          exact gc_iret hx hb hr hlk hP hS d_Mo_outward_49 ⟨rfl, Or.inr ⟨pr0, f0, (-5), fl, nf, em, cs, lt, (nt + 1), an, mq, fx, fy, ⟨rfl, hpr0⟩, ⟨rfl, hf0⟩, (by unfold outF; rw [if_pos (by omega)]), hRF, (Or.inr ⟨by decide, rfl, rfl, rfl⟩), h_1064, h_1054, h_1055, h_1056, h_1057, h_1058, h_1059, h_1060, h_1061, h_1062, h_1063, h_1049, (fun z q0 q1 q2 q3 q4 q5 q6 q7 q8 q9 q10 q11 => (gm_up_ne _ _ q0).trans (rfl)), rfl⟩⟩
      · skip
        exfalso; omega
    · skip
      refine W.eq (g2 := F0 m 4 ls [.int (nI 0)]) rfl ?_
      refine lv_if_eq (tgt := 17) hx hb d_Mo_outward_4 (by decide) (fun _ => ?_) (fun q => absurd q (by decide))
      exact absurd ⟨pr0, by omega, rfl⟩ c_3
  · skip
    refine lv_iload_n hx hb d_Mo_outward_0 rfl (lv_at hl 1 rfl) ?_
    refine gc_S (n := 1) [.int y] [] hx hb hml hown hts hK hN hX hP hS (c_Mo_isProtocol y) k_923 k_924 k_10 k_925 (by decide +kernel) ⟨by decide, by decide⟩ rfl hl.1 rfl (Nat.le_of_ble_eq_true rfl) d_Mo_outward_1 ⟨by decide, by decide⟩ (fun r N1 M_1065 H locs hw hP hS => ?_)
    obtain ⟨rfl, hw⟩ := hw
    rcases hw with ⟨c_1066, rfl, rfl⟩ | ⟨c_1067, rfl, rfl⟩
    · skip
      refine W.eq (g2 := F0 m 4 ls [.int (nI 1)]) rfl ?_
      refine lv_if_eq (tgt := 17) hx hb d_Mo_outward_4 (by decide) (fun q => absurd q (by decide)) (fun _ => ?_)
      refine lv_iload_n hx hb d_Mo_outward_7 rfl (lv_at hl 2 rfl) ?_
      refine lv_if_lt (tgt := 17) hx hb d_Mo_outward_8 (by decide) (fun c_1068 => ?_) (fun c_1068 => ?_)
      · skip
        refine lv_iconst (v := (-1)) hx hb d_Mo_outward_17 (by decide) ?_
        rw [← hQ]
        exact gc_iret hx hb hr hlk hP hS d_Mo_outward_18 ⟨rfl, Or.inl ⟨hno, rfl, rfl⟩⟩
      · skip
        refine lv_iload_n hx hb d_Mo_outward_11 rfl (lv_at hl 2 rfl) ?_
        refine lv_bipush (v := nI 15) hx hb d_Mo_outward_12 (by decide) ?_
        refine lv_icmp_le (tgt := 19) hx hb d_Mo_outward_14 (by decide) (fun c_1069 => ?_) (fun c_1069 => ?_)
        · skip
          exact absurd ⟨c_1066, in_lift (by decide) ⟨c_1068, Int32.not_lt.mpr c_1069⟩⟩ hno
        · skip
          refine lv_iconst (v := (-1)) hx hb d_Mo_outward_17 (by decide) ?_
          rw [← hQ]
          exact gc_iret hx hb hr hlk hP hS d_Mo_outward_18 ⟨rfl, Or.inl ⟨hno, rfl, rfl⟩⟩
    · skip
      refine W.eq (g2 := F0 m 4 ls [.int (nI 0)]) rfl ?_
      refine lv_if_eq (tgt := 17) hx hb d_Mo_outward_4 (by decide) (fun _ => ?_) (fun q => absurd q (by decide))
      refine lv_iconst (v := (-1)) hx hb d_Mo_outward_17 (by decide) ?_
      rw [← hQ]
      exact gc_iret hx hb hr hlk hP hS d_Mo_outward_18 ⟨rfl, Or.inl ⟨hno, rfl, rfl⟩⟩
end C41
