section C49
variable {l : Launch} {D : va_G} {ca : Nat → ClassId} {A : Nat → Prop} {G : gG} {N : Nat} {M : gm_M}

theorem LwS_g {ca : Nat → ClassId} {g h c : Nat} {M : gm_M} (hL : LwS ca g h c M) : ∃ fs : List Value, M g = some (.inr (8, fs)) := hL _ (fun cu be so ta tm lt nt bp t f rp nr ra ru lw hw t2 f2 ne pp po pi nf fa fl em cn cs ct ce cb bn bt bd bs bb wh tl na an fx fy lm ma mw mp ml mh mfr mto mtx me mq aA aS hd eg el ec er eb ea el2 ec2 ex0 ex1 ex2 ex3 ef efa eem ecu ebe zeh zm1 zm2 zm3 zm4 zm5 zm6 zm7 zm8 zm9 zm24 zm25 zm26 zm27 zm10 zm11 zm12 zm13 zm14 zm15 zm16 zm17 zm18 zm19 zm20 zm21 zm22 zm23 hr1 hr2 hr3 hrs hf htl htx hcs hne hpp hpo hpi hnr hR hU hnf hA hF hso hta htm hltc hntc hnac hcnc hcub hcs0 hct hbt hbn hbd hlm hRU hRE hRF hhd hT hI hpo9 hacc hw1 hw2 han hgh hc => ⟨_, eg⟩)
theorem lw_neg : ∀ tp : Nat, tp < 6 → nI tp - nI 6 < 0 := by decide
theorem lw_six {tp sq : Nat} (ht : tp ≤ 9999) (hs : sq < 2 ^ 30) : nI tp - nI 6 < nI sq ↔ ¬ sq + 6 ≤ tp := by
  by_cases q : 6 ≤ tp
  · rw [pk_sub q]
    by_cases z : tp - 6 < sq
    · exact ⟨fun _ => by omega, fun _ => nI_lt z (by omega)⟩
    · exact ⟨fun w => absurd w (nI_nlt (by omega) (by omega)), fun w => absurd w (by omega)⟩
  · exact ⟨fun _ => by omega, fun _ => Int32.lt_of_lt_of_le (lw_neg tp (by omega)) (Int32.not_lt.mp (nI_pos (by omega)))⟩
set_option maxHeartbeats 4000000 in
set_option maxRecDepth 100000 in
theorem law_loop {p : Program} {l : Launch} {e : Env} {s : State} {m : MethodId} {below : List Frame} {meth : Method} {c : Code} {D : va_G} {ca : Nat → ClassId} {G : gG} {b L N g h : Nat} {xs : Nat → Int32} (hL : L ≤ 3072) (C0 : lw_At p s m meth c b L xs) (hK : va_K D cls (tyL ca) s) (hXX : gX (fun q : Nat => s.heap.size ≤ q) G s) (hN : ∀ q : Nat, N ≤ q → (fun q : Nat => s.heap.size ≤ q) q) : ∀ (n j k : Nat) (M : gm_M) (H : Heap) (locs : List Loc) (ls : Array Slot), L + 1 ≤ 6 * j + n → 6 * j ≤ L → k ≤ j → LwS ca g h k M → gm_P D cls (fun q : Nat => s.heap.size ≤ q) N M H → va_S (fun q : Nat => s.heap.size ≤ q) s.heap H locs → lv_has ls 4 [(0, .ref b), (1, .ref g), (2, .ref h), (3, .int (nI (6 * j)))] → W p l e room_1 s m #[Value.ref b] below meth c H locs 112 2520 (lw_Z below #[Value.ref b] s) (F0 m 18 ls []) := by
  obtain ⟨hx, hb, hr, hml, hown, hts, hX, hbl, hlocks, hgv⟩ := C0
  have hbA : ¬ (fun q : Nat => s.heap.size ≤ q) b := Nat.not_le.mpr hbl
  have htl : ∀ w ∈ LW, w.before #[Value.ref b] s = true := fun w hw => hts w (List.mem_filter.mp hw).1
  have htc : ∀ w ∈ (Cond.initialized "PacketGateLaw") :: LW, w.before #[Value.ref b] s = true := fun w hw => (List.mem_cons.mp hw).elim (fun q => by rw [q]; exact htl _ k_0) (htl w)
  have hown : s.vm.findClass "PacketGateLaw" = some m.cls := hown
  generalize hZ : lw_Z below #[Value.ref b] s = Z
  intro n
  induction n with
  | zero => intro j k M H locs ls h1 h2; exact absurd h1 (by omega)
  | succ n ih =>
    intro j k M H locs ls hf hj hkj hLS hP hS hl
    refine lv_iload_n hx hb d_law_18 rfl (lv_at hl 3 rfl) ?_
    refine lv_aload_n hx hb d_law_19 rfl (lv_at hl 0 rfl) ?_
    refine va_slen hx hb hX hbl hbA hS d_law_20 ?_
    refine lv_bipush (v := nI 6) hx hb d_law_21 (by decide) ?_
    refine lv_isub hx hb d_law_23 ?_
    refine lv_icmp_gt (tgt := 632) hx hb d_law_24 (by decide) (fun c1 => ?_) (fun c1 => ?_)
    · skip
      refine lv_iconst (v := 1) hx hb d_law_632 (by decide) ?_
      refine va_forget (fun q hq => hS.2.2 q hq) ?_
      refine W.widen (k := 600000) (n := 7302250) (by decide) (by decide) ?_
      rw [← hZ]
      exact lw_ret hx hb hr hlocks d_law_633
    · skip
      have h6 : 6 * j + 6 ≤ L := Classical.byContradiction (fun q => c1 ((lw_six (tp := L) (sq := 6 * j) (by omega) (by omega)).mpr q))
      refine lv_aload_n hx hb d_law_27 rfl (lv_at hl 0 rfl) ?_
      refine lv_iload_n hx hb d_law_28 rfl (lv_at hl 3 rfl) ?_
      refine va_sld hx hb hX hbl hbA hS (vp_in_nI (show 6 * j < L by omega) (by omega)) d_law_29 ?_
      refine lv_bipush (v := nI 15) hx hb d_law_30 (by decide) ?_
      refine lv_iand hx hb d_law_32 ?_
      generalize xs (nI (6 * j)).toNatClampNeg &&& nI 15 = sw
      rcases sw_split sw 16 (by decide) with ⟨hout, hout2⟩ | ⟨kq, hkq, rfl⟩
      · skip
        refine lv_tableOut (tgt := 626) hx hb d_law_33 hout (by decide) ?_
        refine lv_iinc (v := nI (6 * (j + 1))) (lv' := [(3, .int (nI (6 * (j + 1)))), (0, .ref b), (1, .ref g), (2, .ref h)]) hx hb d_law_626 hl (k := 3) rfl (by rw [show Int32.ofInt 6 = nI 6 from rfl, nI_add, show 6 * j + 6 = 6 * (j + 1) by omega]) (by decide) rfl (fun ls hl => ?_)
        refine lv_goto (tgt := 18) hx hb d_law_629 (by decide) ?_
        exact ih (j + 1) k _ _ _ ls (by omega) (by omega) (by omega) hLS hP hS (lv_sub hl [1, 2, 3, 0] rfl)
      · skip
        rcases (show kq = 0 ∨ kq = 1 ∨ kq = 2 ∨ kq = 3 ∨ kq = 4 ∨ kq = 5 ∨ kq = 6 ∨ kq = 7 ∨ kq = 8 ∨ kq = 9 ∨ kq = 10 ∨ kq = 11 ∨ kq = 12 ∨ kq = 13 ∨ kq = 14 ∨ kq = 15 by omega) with rfl | rfl | rfl | rfl | rfl | rfl | rfl | rfl | rfl | rfl | rfl | rfl | rfl | rfl | rfl | rfl
        · skip
          refine lv_tableIn (off := 79) (tgt := 112) hx hb d_law_33 (by decide) (by decide) (by decide) (by decide) ?_
          refine lv_aload_n hx hb d_law_112 rfl (lv_at hl 1 rfl) ?_
          refine lv_aload_n hx hb d_law_113 rfl (lv_at hl 0 rfl) ?_
          refine lv_iload_n hx hb d_law_114 rfl (lv_at hl 3 rfl) ?_
          refine lv_iconst (v := nI 1) hx hb d_law_115 (by decide) ?_
          refine lv_iadd hx hb d_law_116 ?_
          rw [show nI (6 * j) + nI 1 = nI (6 * j + 1) from nI_add _ _]
          refine va_sld hx hb hX hbl hbA hS (vp_in_nI (show 6 * j + 1 < L by omega) (by omega)) d_law_117 ?_
          obtain ⟨fs, hg0⟩ := LwS_g hLS
          refine gc_V (q := (R_Pg, F_Pg, 15)) (n := 1) [.int (xs (nI (6 * j + 1)).toNatClampNeg)] [] hx hb hml hown htc hK hN hXX hP hS (x_type (xs (nI (6 * j + 1)).toNatClampNeg) (by omega) hLS) rfl hg0 k_243 k_244 k_245 k_1 k_246 (by decide +kernel) ⟨by decide, by decide⟩ rfl hl.1 rfl (Nat.le_of_ble_eq_true rfl) d_law_118 ⟨by decide, by decide⟩ (fun r N1 M1 H locs hw hP hS => ?_)
          obtain ⟨rfl, ⟨fs2, hh0⟩, hw⟩ := hw
          refine W.eq (g2 := F0 m 121 ls [.int r]) rfl ?_
          refine lv_aload_n hx hb d_law_121 rfl (lv_at hl 2 rfl) ?_
          refine lv_aload_n hx hb d_law_122 rfl (lv_at hl 0 rfl) ?_
          refine lv_iload_n hx hb d_law_123 rfl (lv_at hl 3 rfl) ?_
          refine lv_iconst (v := nI 1) hx hb d_law_124 (by decide) ?_
          refine lv_iadd hx hb d_law_125 ?_
          rw [show nI (6 * j) + nI 1 = nI (6 * j + 1) from nI_add _ _]
          refine va_sld hx hb hX hbl hbA hS (vp_in_nI (show 6 * j + 1 < L by omega) (by omega)) d_law_126 ?_
          refine gc_V (q := (R_Mo, F_Mo, 44)) (n := 1) [.int (xs (nI (6 * j + 1)).toNatClampNeg)] [.int r] hx hb hml hown htc hK hN hXX hP hS hw rfl hh0 k_876 k_877 k_878 k_10 k_879 (by decide +kernel) ⟨by decide, by decide⟩ rfl hl.1 rfl (Nat.le_of_ble_eq_true rfl) d_law_127 ⟨by decide, by decide⟩ (fun r2 N2 M2 H locs hw hP hS => ?_)
          obtain ⟨rfl, rfl, hLS2⟩ := hw
          refine W.eq (g2 := F0 m 130 ls [.int r2, .int r2]) rfl ?_
          refine lv_icmp_eq (tgt := 626) hx hb d_law_130 (by decide) (fun _ => ?_) (fun q => absurd rfl q)
          refine lv_iinc (v := nI (6 * (j + 1))) (lv' := [(3, .int (nI (6 * (j + 1)))), (0, .ref b), (1, .ref g), (2, .ref h)]) hx hb d_law_626 hl (k := 3) rfl (by rw [show Int32.ofInt 6 = nI 6 from rfl, nI_add, show 6 * j + 6 = 6 * (j + 1) by omega]) (by decide) rfl (fun ls hl => ?_)
          refine lv_goto (tgt := 18) hx hb d_law_629 (by decide) ?_
          exact ih (j + 1) (k + 1) _ _ _ ls (by omega) (by omega) (by omega) hLS2 hP hS (lv_sub hl [1, 2, 3, 0] rfl)
        · skip
          refine lv_tableIn (off := 102) (tgt := 135) hx hb d_law_33 (by decide) (by decide) (by decide) (by decide) ?_
          refine lv_aload_n hx hb d_law_135 rfl (lv_at hl 1 rfl) ?_
          obtain ⟨fs, hg0⟩ := LwS_g hLS
          refine gc_V (q := (R_Pg, F_Pg, 15)) (n := 0) [] [] hx hb hml hown htc hK hN hXX hP hS (x_install  (by omega) hLS) rfl hg0 k_350 k_351 k_352 k_1 k_353 (by decide +kernel) ⟨by decide, by decide⟩ rfl hl.1 rfl (Nat.le_of_ble_eq_true rfl) d_law_136 ⟨by decide, by decide⟩ (fun r N1 M1 H locs hw hP hS => ?_)
          obtain ⟨rfl, ⟨fs2, hh0⟩, hw⟩ := hw
          refine W.eq (g2 := F0 m 139 ls [.int r]) rfl ?_
          refine lv_aload_n hx hb d_law_139 rfl (lv_at hl 2 rfl) ?_
          refine gc_V (q := (R_Mo, F_Mo, 44)) (n := 0) [] [.int r] hx hb hml hown htc hK hN hXX hP hS hw rfl hh0 k_880 k_881 k_882 k_10 k_883 (by decide +kernel) ⟨by decide, by decide⟩ rfl hl.1 rfl (Nat.le_of_ble_eq_true rfl) d_law_140 ⟨by decide, by decide⟩ (fun r2 N2 M2 H locs hw hP hS => ?_)
          obtain ⟨rfl, rfl, hLS2⟩ := hw
          refine W.eq (g2 := F0 m 143 ls [.int r2, .int r2]) rfl ?_
          refine lv_icmp_eq (tgt := 626) hx hb d_law_143 (by decide) (fun _ => ?_) (fun q => absurd rfl q)
          refine lv_iinc (v := nI (6 * (j + 1))) (lv' := [(3, .int (nI (6 * (j + 1)))), (0, .ref b), (1, .ref g), (2, .ref h)]) hx hb d_law_626 hl (k := 3) rfl (by rw [show Int32.ofInt 6 = nI 6 from rfl, nI_add, show 6 * j + 6 = 6 * (j + 1) by omega]) (by decide) rfl (fun ls hl => ?_)
          refine lv_goto (tgt := 18) hx hb d_law_629 (by decide) ?_
          exact ih (j + 1) (k + 1) _ _ _ ls (by omega) (by omega) (by omega) hLS2 hP hS (lv_sub hl [1, 2, 3, 0] rfl)
        · skip
          refine lv_tableIn (off := 115) (tgt := 148) hx hb d_law_33 (by decide) (by decide) (by decide) (by decide) ?_
          refine lv_aload_n hx hb d_law_148 rfl (lv_at hl 1 rfl) ?_
          refine lv_aload_n hx hb d_law_149 rfl (lv_at hl 0 rfl) ?_
          refine lv_iload_n hx hb d_law_150 rfl (lv_at hl 3 rfl) ?_
          refine lv_iconst (v := nI 1) hx hb d_law_151 (by decide) ?_
          refine lv_iadd hx hb d_law_152 ?_
          rw [show nI (6 * j) + nI 1 = nI (6 * j + 1) from nI_add _ _]
          refine va_sld hx hb hX hbl hbA hS (vp_in_nI (show 6 * j + 1 < L by omega) (by omega)) d_law_153 ?_
          obtain ⟨fs, hg0⟩ := LwS_g hLS
          refine gc_V (q := (R_Pg, F_Pg, 15)) (n := 1) [.int (xs (nI (6 * j + 1)).toNatClampNeg)] [] hx hb hml hown htc hK hN hXX hP hS (x_withdraw (xs (nI (6 * j + 1)).toNatClampNeg) (by omega) hLS) rfl hg0 k_417 k_418 k_419 k_1 k_420 (by decide +kernel) ⟨by decide, by decide⟩ rfl hl.1 rfl (Nat.le_of_ble_eq_true rfl) d_law_154 ⟨by decide, by decide⟩ (fun r N1 M1 H locs hw hP hS => ?_)
          obtain ⟨rfl, ⟨fs2, hh0⟩, hw⟩ := hw
          refine W.eq (g2 := F0 m 157 ls [.int r]) rfl ?_
          refine lv_aload_n hx hb d_law_157 rfl (lv_at hl 2 rfl) ?_
          refine lv_aload_n hx hb d_law_158 rfl (lv_at hl 0 rfl) ?_
          refine lv_iload_n hx hb d_law_159 rfl (lv_at hl 3 rfl) ?_
          refine lv_iconst (v := nI 1) hx hb d_law_160 (by decide) ?_
          refine lv_iadd hx hb d_law_161 ?_
          rw [show nI (6 * j) + nI 1 = nI (6 * j + 1) from nI_add _ _]
          refine va_sld hx hb hX hbl hbA hS (vp_in_nI (show 6 * j + 1 < L by omega) (by omega)) d_law_162 ?_
          refine gc_V (q := (R_Mo, F_Mo, 44)) (n := 1) [.int (xs (nI (6 * j + 1)).toNatClampNeg)] [.int r] hx hb hml hown htc hK hN hXX hP hS hw rfl hh0 k_903 k_904 k_905 k_10 k_906 (by decide +kernel) ⟨by decide, by decide⟩ rfl hl.1 rfl (Nat.le_of_ble_eq_true rfl) d_law_163 ⟨by decide, by decide⟩ (fun r2 N2 M2 H locs hw hP hS => ?_)
          obtain ⟨rfl, rfl, hLS2⟩ := hw
          refine W.eq (g2 := F0 m 166 ls [.int r2, .int r2]) rfl ?_
          refine lv_icmp_eq (tgt := 626) hx hb d_law_166 (by decide) (fun _ => ?_) (fun q => absurd rfl q)
          refine lv_iinc (v := nI (6 * (j + 1))) (lv' := [(3, .int (nI (6 * (j + 1)))), (0, .ref b), (1, .ref g), (2, .ref h)]) hx hb d_law_626 hl (k := 3) rfl (by rw [show Int32.ofInt 6 = nI 6 from rfl, nI_add, show 6 * j + 6 = 6 * (j + 1) by omega]) (by decide) rfl (fun ls hl => ?_)
          refine lv_goto (tgt := 18) hx hb d_law_629 (by decide) ?_
          exact ih (j + 1) (k + 1) _ _ _ ls (by omega) (by omega) (by omega) hLS2 hP hS (lv_sub hl [1, 2, 3, 0] rfl)
        · skip
          refine lv_tableIn (off := 138) (tgt := 171) hx hb d_law_33 (by decide) (by decide) (by decide) (by decide) ?_
          refine lv_aload_n hx hb d_law_171 rfl (lv_at hl 1 rfl) ?_
          refine lv_aload_n hx hb d_law_172 rfl (lv_at hl 0 rfl) ?_
          refine lv_iload_n hx hb d_law_173 rfl (lv_at hl 3 rfl) ?_
          refine lv_iconst (v := nI 1) hx hb d_law_174 (by decide) ?_
          refine lv_iadd hx hb d_law_175 ?_
          rw [show nI (6 * j) + nI 1 = nI (6 * j + 1) from nI_add _ _]
          refine va_sld hx hb hX hbl hbA hS (vp_in_nI (show 6 * j + 1 < L by omega) (by omega)) d_law_176 ?_
          refine lv_aload_n hx hb d_law_177 rfl (lv_at hl 0 rfl) ?_
          refine lv_iload_n hx hb d_law_178 rfl (lv_at hl 3 rfl) ?_
          refine lv_iconst (v := nI 2) hx hb d_law_179 (by decide) ?_
          refine lv_iadd hx hb d_law_180 ?_
          rw [show nI (6 * j) + nI 2 = nI (6 * j + 2) from nI_add _ _]
          refine va_sld hx hb hX hbl hbA hS (vp_in_nI (show 6 * j + 2 < L by omega) (by omega)) d_law_181 ?_
          obtain ⟨fs, hg0⟩ := LwS_g hLS
          refine gc_V (q := (R_Pg, F_Pg, 15)) (n := 2) [.int (xs (nI (6 * j + 1)).toNatClampNeg), .int (xs (nI (6 * j + 2)).toNatClampNeg)] [] hx hb hml hown htc hK hN hXX hP hS (x_ruleText (xs (nI (6 * j + 1)).toNatClampNeg) (xs (nI (6 * j + 2)).toNatClampNeg) (by omega) hLS) rfl hg0 k_429 k_430 k_431 k_1 k_432 (by decide +kernel) ⟨by decide, by decide⟩ rfl hl.1 rfl (Nat.le_of_ble_eq_true rfl) d_law_182 ⟨by decide, by decide⟩ (fun r N1 M1 H locs hw hP hS => ?_)
          obtain ⟨rfl, ⟨fs2, hh0⟩, hw⟩ := hw
          refine W.eq (g2 := F0 m 185 ls [.int r]) rfl ?_
          refine lv_aload_n hx hb d_law_185 rfl (lv_at hl 2 rfl) ?_
          refine lv_aload_n hx hb d_law_186 rfl (lv_at hl 0 rfl) ?_
          refine lv_iload_n hx hb d_law_187 rfl (lv_at hl 3 rfl) ?_
          refine lv_iconst (v := nI 1) hx hb d_law_188 (by decide) ?_
          refine lv_iadd hx hb d_law_189 ?_
          rw [show nI (6 * j) + nI 1 = nI (6 * j + 1) from nI_add _ _]
          refine va_sld hx hb hX hbl hbA hS (vp_in_nI (show 6 * j + 1 < L by omega) (by omega)) d_law_190 ?_
          refine lv_aload_n hx hb d_law_191 rfl (lv_at hl 0 rfl) ?_
          refine lv_iload_n hx hb d_law_192 rfl (lv_at hl 3 rfl) ?_
          refine lv_iconst (v := nI 2) hx hb d_law_193 (by decide) ?_
          refine lv_iadd hx hb d_law_194 ?_
          rw [show nI (6 * j) + nI 2 = nI (6 * j + 2) from nI_add _ _]
          refine va_sld hx hb hX hbl hbA hS (vp_in_nI (show 6 * j + 2 < L by omega) (by omega)) d_law_195 ?_
          refine gc_V (q := (R_Mo, F_Mo, 44)) (n := 2) [.int (xs (nI (6 * j + 1)).toNatClampNeg), .int (xs (nI (6 * j + 2)).toNatClampNeg)] [.int r] hx hb hml hown htc hK hN hXX hP hS hw rfl hh0 k_907 k_908 k_909 k_10 k_910 (by decide +kernel) ⟨by decide, by decide⟩ rfl hl.1 rfl (Nat.le_of_ble_eq_true rfl) d_law_196 ⟨by decide, by decide⟩ (fun r2 N2 M2 H locs hw hP hS => ?_)
          obtain ⟨rfl, rfl, hLS2⟩ := hw
          refine W.eq (g2 := F0 m 199 ls [.int r2, .int r2]) rfl ?_
          refine lv_icmp_eq (tgt := 626) hx hb d_law_199 (by decide) (fun _ => ?_) (fun q => absurd rfl q)
          refine lv_iinc (v := nI (6 * (j + 1))) (lv' := [(3, .int (nI (6 * (j + 1)))), (0, .ref b), (1, .ref g), (2, .ref h)]) hx hb d_law_626 hl (k := 3) rfl (by rw [show Int32.ofInt 6 = nI 6 from rfl, nI_add, show 6 * j + 6 = 6 * (j + 1) by omega]) (by decide) rfl (fun ls hl => ?_)
          refine lv_goto (tgt := 18) hx hb d_law_629 (by decide) ?_
          exact ih (j + 1) (k + 1) _ _ _ ls (by omega) (by omega) (by omega) hLS2 hP hS (lv_sub hl [1, 2, 3, 0] rfl)
        · skip
          refine lv_tableIn (off := 171) (tgt := 204) hx hb d_law_33 (by decide) (by decide) (by decide) (by decide) ?_
          refine lv_aload_n hx hb d_law_204 rfl (lv_at hl 1 rfl) ?_
          refine lv_aload_n hx hb d_law_205 rfl (lv_at hl 0 rfl) ?_
          refine lv_iload_n hx hb d_law_206 rfl (lv_at hl 3 rfl) ?_
          refine lv_iconst (v := nI 1) hx hb d_law_207 (by decide) ?_
          refine lv_iadd hx hb d_law_208 ?_
          rw [show nI (6 * j) + nI 1 = nI (6 * j + 1) from nI_add _ _]
          refine va_sld hx hb hX hbl hbA hS (vp_in_nI (show 6 * j + 1 < L by omega) (by omega)) d_law_209 ?_
          refine lv_aload_n hx hb d_law_210 rfl (lv_at hl 0 rfl) ?_
          refine lv_iload_n hx hb d_law_211 rfl (lv_at hl 3 rfl) ?_
          refine lv_iconst (v := nI 2) hx hb d_law_212 (by decide) ?_
          refine lv_iadd hx hb d_law_213 ?_
          rw [show nI (6 * j) + nI 2 = nI (6 * j + 2) from nI_add _ _]
          refine va_sld hx hb hX hbl hbA hS (vp_in_nI (show 6 * j + 2 < L by omega) (by omega)) d_law_214 ?_
          refine lv_aload_n hx hb d_law_215 rfl (lv_at hl 0 rfl) ?_
          refine lv_iload_n hx hb d_law_216 rfl (lv_at hl 3 rfl) ?_
          refine lv_iconst (v := nI 3) hx hb d_law_217 (by decide) ?_
          refine lv_iadd hx hb d_law_218 ?_
          rw [show nI (6 * j) + nI 3 = nI (6 * j + 3) from nI_add _ _]
          refine va_sld hx hb hX hbl hbA hS (vp_in_nI (show 6 * j + 3 < L by omega) (by omega)) d_law_219 ?_
          refine lv_aload_n hx hb d_law_220 rfl (lv_at hl 0 rfl) ?_
          refine lv_iload_n hx hb d_law_221 rfl (lv_at hl 3 rfl) ?_
          refine lv_iconst (v := nI 4) hx hb d_law_222 (by decide) ?_
          refine lv_iadd hx hb d_law_223 ?_
          rw [show nI (6 * j) + nI 4 = nI (6 * j + 4) from nI_add _ _]
          refine va_sld hx hb hX hbl hbA hS (vp_in_nI (show 6 * j + 4 < L by omega) (by omega)) d_law_224 ?_
          obtain ⟨fs, hg0⟩ := LwS_g hLS
          refine gc_V (q := (R_Pg, F_Pg, 15)) (n := 4) [.int (xs (nI (6 * j + 1)).toNatClampNeg), .int (xs (nI (6 * j + 2)).toNatClampNeg), .int (xs (nI (6 * j + 3)).toNatClampNeg), .int (xs (nI (6 * j + 4)).toNatClampNeg)] [] hx hb hml hown htc hK hN hXX hP hS (x_expose (xs (nI (6 * j + 1)).toNatClampNeg) (xs (nI (6 * j + 2)).toNatClampNeg) (xs (nI (6 * j + 3)).toNatClampNeg) (xs (nI (6 * j + 4)).toNatClampNeg) (by omega) hLS) rfl hg0 k_478 k_479 k_480 k_1 k_481 (by decide +kernel) ⟨by decide, by decide⟩ rfl hl.1 rfl (Nat.le_of_ble_eq_true rfl) d_law_225 ⟨by decide, by decide⟩ (fun r N1 M1 H locs hw hP hS => ?_)
          obtain ⟨rfl, ⟨fs2, hh0⟩, hw⟩ := hw
          refine W.eq (g2 := F0 m 228 ls [.int r]) rfl ?_
          refine lv_aload_n hx hb d_law_228 rfl (lv_at hl 2 rfl) ?_
          refine lv_aload_n hx hb d_law_229 rfl (lv_at hl 0 rfl) ?_
          refine lv_iload_n hx hb d_law_230 rfl (lv_at hl 3 rfl) ?_
          refine lv_iconst (v := nI 1) hx hb d_law_231 (by decide) ?_
          refine lv_iadd hx hb d_law_232 ?_
          rw [show nI (6 * j) + nI 1 = nI (6 * j + 1) from nI_add _ _]
          refine va_sld hx hb hX hbl hbA hS (vp_in_nI (show 6 * j + 1 < L by omega) (by omega)) d_law_233 ?_
          refine lv_aload_n hx hb d_law_234 rfl (lv_at hl 0 rfl) ?_
          refine lv_iload_n hx hb d_law_235 rfl (lv_at hl 3 rfl) ?_
          refine lv_iconst (v := nI 2) hx hb d_law_236 (by decide) ?_
          refine lv_iadd hx hb d_law_237 ?_
          rw [show nI (6 * j) + nI 2 = nI (6 * j + 2) from nI_add _ _]
          refine va_sld hx hb hX hbl hbA hS (vp_in_nI (show 6 * j + 2 < L by omega) (by omega)) d_law_238 ?_
          refine lv_aload_n hx hb d_law_239 rfl (lv_at hl 0 rfl) ?_
          refine lv_iload_n hx hb d_law_240 rfl (lv_at hl 3 rfl) ?_
          refine lv_iconst (v := nI 3) hx hb d_law_241 (by decide) ?_
          refine lv_iadd hx hb d_law_242 ?_
          rw [show nI (6 * j) + nI 3 = nI (6 * j + 3) from nI_add _ _]
          refine va_sld hx hb hX hbl hbA hS (vp_in_nI (show 6 * j + 3 < L by omega) (by omega)) d_law_243 ?_
          refine lv_aload_n hx hb d_law_244 rfl (lv_at hl 0 rfl) ?_
          refine lv_iload_n hx hb d_law_245 rfl (lv_at hl 3 rfl) ?_
          refine lv_iconst (v := nI 4) hx hb d_law_246 (by decide) ?_
          refine lv_iadd hx hb d_law_247 ?_
          rw [show nI (6 * j) + nI 4 = nI (6 * j + 4) from nI_add _ _]
          refine va_sld hx hb hX hbl hbA hS (vp_in_nI (show 6 * j + 4 < L by omega) (by omega)) d_law_248 ?_
          refine gc_V (q := (R_Mo, F_Mo, 44)) (n := 4) [.int (xs (nI (6 * j + 1)).toNatClampNeg), .int (xs (nI (6 * j + 2)).toNatClampNeg), .int (xs (nI (6 * j + 3)).toNatClampNeg), .int (xs (nI (6 * j + 4)).toNatClampNeg)] [.int r] hx hb hml hown htc hK hN hXX hP hS hw rfl hh0 k_919 k_920 k_921 k_10 k_922 (by decide +kernel) ⟨by decide, by decide⟩ rfl hl.1 rfl (Nat.le_of_ble_eq_true rfl) d_law_249 ⟨by decide, by decide⟩ (fun r2 N2 M2 H locs hw hP hS => ?_)
          obtain ⟨rfl, rfl, hLS2⟩ := hw
          refine W.eq (g2 := F0 m 252 ls [.int r2, .int r2]) rfl ?_
          refine lv_icmp_eq (tgt := 626) hx hb d_law_252 (by decide) (fun _ => ?_) (fun q => absurd rfl q)
          refine lv_iinc (v := nI (6 * (j + 1))) (lv' := [(3, .int (nI (6 * (j + 1)))), (0, .ref b), (1, .ref g), (2, .ref h)]) hx hb d_law_626 hl (k := 3) rfl (by rw [show Int32.ofInt 6 = nI 6 from rfl, nI_add, show 6 * j + 6 = 6 * (j + 1) by omega]) (by decide) rfl (fun ls hl => ?_)
          refine lv_goto (tgt := 18) hx hb d_law_629 (by decide) ?_
          exact ih (j + 1) (k + 1) _ _ _ ls (by omega) (by omega) (by omega) hLS2 hP hS (lv_sub hl [1, 2, 3, 0] rfl)
        · skip
          refine lv_tableIn (off := 224) (tgt := 257) hx hb d_law_33 (by decide) (by decide) (by decide) (by decide) ?_
          refine lv_aload_n hx hb d_law_257 rfl (lv_at hl 1 rfl) ?_
          refine lv_aload_n hx hb d_law_258 rfl (lv_at hl 0 rfl) ?_
          refine lv_iload_n hx hb d_law_259 rfl (lv_at hl 3 rfl) ?_
          refine lv_iconst (v := nI 1) hx hb d_law_260 (by decide) ?_
          refine lv_iadd hx hb d_law_261 ?_
          rw [show nI (6 * j) + nI 1 = nI (6 * j + 1) from nI_add _ _]
          refine va_sld hx hb hX hbl hbA hS (vp_in_nI (show 6 * j + 1 < L by omega) (by omega)) d_law_262 ?_
          refine lv_aload_n hx hb d_law_263 rfl (lv_at hl 0 rfl) ?_
          refine lv_iload_n hx hb d_law_264 rfl (lv_at hl 3 rfl) ?_
          refine lv_iconst (v := nI 2) hx hb d_law_265 (by decide) ?_
          refine lv_iadd hx hb d_law_266 ?_
          rw [show nI (6 * j) + nI 2 = nI (6 * j + 2) from nI_add _ _]
          refine va_sld hx hb hX hbl hbA hS (vp_in_nI (show 6 * j + 2 < L by omega) (by omega)) d_law_267 ?_
          obtain ⟨fs, hg0⟩ := LwS_g hLS
          refine gc_V (q := (R_Pg, F_Pg, 15)) (n := 2) [.int (xs (nI (6 * j + 1)).toNatClampNeg), .int (xs (nI (6 * j + 2)).toNatClampNeg)] [] hx hb hml hown htc hK hN hXX hP hS (x_hide (xs (nI (6 * j + 1)).toNatClampNeg) (xs (nI (6 * j + 2)).toNatClampNeg) (by omega) hLS) rfl hg0 k_529 k_530 k_531 k_1 k_532 (by decide +kernel) ⟨by decide, by decide⟩ rfl hl.1 rfl (Nat.le_of_ble_eq_true rfl) d_law_268 ⟨by decide, by decide⟩ (fun r N1 M1 H locs hw hP hS => ?_)
          obtain ⟨rfl, ⟨fs2, hh0⟩, hw⟩ := hw
          refine W.eq (g2 := F0 m 271 ls [.int r]) rfl ?_
          refine lv_aload_n hx hb d_law_271 rfl (lv_at hl 2 rfl) ?_
          refine lv_aload_n hx hb d_law_272 rfl (lv_at hl 0 rfl) ?_
          refine lv_iload_n hx hb d_law_273 rfl (lv_at hl 3 rfl) ?_
          refine lv_iconst (v := nI 1) hx hb d_law_274 (by decide) ?_
          refine lv_iadd hx hb d_law_275 ?_
          rw [show nI (6 * j) + nI 1 = nI (6 * j + 1) from nI_add _ _]
          refine va_sld hx hb hX hbl hbA hS (vp_in_nI (show 6 * j + 1 < L by omega) (by omega)) d_law_276 ?_
          refine lv_aload_n hx hb d_law_277 rfl (lv_at hl 0 rfl) ?_
          refine lv_iload_n hx hb d_law_278 rfl (lv_at hl 3 rfl) ?_
          refine lv_iconst (v := nI 2) hx hb d_law_279 (by decide) ?_
          refine lv_iadd hx hb d_law_280 ?_
          rw [show nI (6 * j) + nI 2 = nI (6 * j + 2) from nI_add _ _]
          refine va_sld hx hb hX hbl hbA hS (vp_in_nI (show 6 * j + 2 < L by omega) (by omega)) d_law_281 ?_
          refine gc_V (q := (R_Mo, F_Mo, 44)) (n := 2) [.int (xs (nI (6 * j + 1)).toNatClampNeg), .int (xs (nI (6 * j + 2)).toNatClampNeg)] [.int r] hx hb hml hown htc hK hN hXX hP hS hw rfl hh0 k_940 k_941 k_942 k_10 k_943 (by decide +kernel) ⟨by decide, by decide⟩ rfl hl.1 rfl (Nat.le_of_ble_eq_true rfl) d_law_282 ⟨by decide, by decide⟩ (fun r2 N2 M2 H locs hw hP hS => ?_)
          obtain ⟨rfl, rfl, hLS2⟩ := hw
          refine W.eq (g2 := F0 m 285 ls [.int r2, .int r2]) rfl ?_
          refine lv_icmp_eq (tgt := 626) hx hb d_law_285 (by decide) (fun _ => ?_) (fun q => absurd rfl q)
          refine lv_iinc (v := nI (6 * (j + 1))) (lv' := [(3, .int (nI (6 * (j + 1)))), (0, .ref b), (1, .ref g), (2, .ref h)]) hx hb d_law_626 hl (k := 3) rfl (by rw [show Int32.ofInt 6 = nI 6 from rfl, nI_add, show 6 * j + 6 = 6 * (j + 1) by omega]) (by decide) rfl (fun ls hl => ?_)
          refine lv_goto (tgt := 18) hx hb d_law_629 (by decide) ?_
          exact ih (j + 1) (k + 1) _ _ _ ls (by omega) (by omega) (by omega) hLS2 hP hS (lv_sub hl [1, 2, 3, 0] rfl)
        · skip
          refine lv_tableIn (off := 257) (tgt := 290) hx hb d_law_33 (by decide) (by decide) (by decide) (by decide) ?_
          refine lv_aload_n hx hb d_law_290 rfl (lv_at hl 1 rfl) ?_
          refine lv_aload_n hx hb d_law_291 rfl (lv_at hl 0 rfl) ?_
          refine lv_iload_n hx hb d_law_292 rfl (lv_at hl 3 rfl) ?_
          refine lv_iconst (v := nI 1) hx hb d_law_293 (by decide) ?_
          refine lv_iadd hx hb d_law_294 ?_
          rw [show nI (6 * j) + nI 1 = nI (6 * j + 1) from nI_add _ _]
          refine va_sld hx hb hX hbl hbA hS (vp_in_nI (show 6 * j + 1 < L by omega) (by omega)) d_law_295 ?_
          refine lv_aload_n hx hb d_law_296 rfl (lv_at hl 0 rfl) ?_
          refine lv_iload_n hx hb d_law_297 rfl (lv_at hl 3 rfl) ?_
          refine lv_iconst (v := nI 2) hx hb d_law_298 (by decide) ?_
          refine lv_iadd hx hb d_law_299 ?_
          rw [show nI (6 * j) + nI 2 = nI (6 * j + 2) from nI_add _ _]
          refine va_sld hx hb hX hbl hbA hS (vp_in_nI (show 6 * j + 2 < L by omega) (by omega)) d_law_300 ?_
          refine lv_aload_n hx hb d_law_301 rfl (lv_at hl 0 rfl) ?_
          refine lv_iload_n hx hb d_law_302 rfl (lv_at hl 3 rfl) ?_
          refine lv_iconst (v := nI 3) hx hb d_law_303 (by decide) ?_
          refine lv_iadd hx hb d_law_304 ?_
          rw [show nI (6 * j) + nI 3 = nI (6 * j + 3) from nI_add _ _]
          refine va_sld hx hb hX hbl hbA hS (vp_in_nI (show 6 * j + 3 < L by omega) (by omega)) d_law_305 ?_
          refine lv_aload_n hx hb d_law_306 rfl (lv_at hl 0 rfl) ?_
          refine lv_iload_n hx hb d_law_307 rfl (lv_at hl 3 rfl) ?_
          refine lv_iconst (v := nI 4) hx hb d_law_308 (by decide) ?_
          refine lv_iadd hx hb d_law_309 ?_
          rw [show nI (6 * j) + nI 4 = nI (6 * j + 4) from nI_add _ _]
          refine va_sld hx hb hX hbl hbA hS (vp_in_nI (show 6 * j + 4 < L by omega) (by omega)) d_law_310 ?_
          obtain ⟨fs, hg0⟩ := LwS_g hLS
          refine gc_V (q := (R_Pg, F_Pg, 15)) (n := 4) [.int (xs (nI (6 * j + 1)).toNatClampNeg), .int (xs (nI (6 * j + 2)).toNatClampNeg), .int (xs (nI (6 * j + 3)).toNatClampNeg), .int (xs (nI (6 * j + 4)).toNatClampNeg)] [] hx hb hml hown htc hK hN hXX hP hS (x_header (xs (nI (6 * j + 1)).toNatClampNeg) (xs (nI (6 * j + 2)).toNatClampNeg) (xs (nI (6 * j + 3)).toNatClampNeg) (xs (nI (6 * j + 4)).toNatClampNeg) (by omega) hLS) rfl hg0 k_546 k_547 k_548 k_1 k_549 (by decide +kernel) ⟨by decide, by decide⟩ rfl hl.1 rfl (Nat.le_of_ble_eq_true rfl) d_law_311 ⟨by decide, by decide⟩ (fun r N1 M1 H locs hw hP hS => ?_)
          obtain ⟨rfl, ⟨fs2, hh0⟩, hw⟩ := hw
          refine W.eq (g2 := F0 m 314 ls [.int r]) rfl ?_
          refine lv_aload_n hx hb d_law_314 rfl (lv_at hl 2 rfl) ?_
          refine lv_aload_n hx hb d_law_315 rfl (lv_at hl 0 rfl) ?_
          refine lv_iload_n hx hb d_law_316 rfl (lv_at hl 3 rfl) ?_
          refine lv_iconst (v := nI 1) hx hb d_law_317 (by decide) ?_
          refine lv_iadd hx hb d_law_318 ?_
          rw [show nI (6 * j) + nI 1 = nI (6 * j + 1) from nI_add _ _]
          refine va_sld hx hb hX hbl hbA hS (vp_in_nI (show 6 * j + 1 < L by omega) (by omega)) d_law_319 ?_
          refine lv_aload_n hx hb d_law_320 rfl (lv_at hl 0 rfl) ?_
          refine lv_iload_n hx hb d_law_321 rfl (lv_at hl 3 rfl) ?_
          refine lv_iconst (v := nI 2) hx hb d_law_322 (by decide) ?_
          refine lv_iadd hx hb d_law_323 ?_
          rw [show nI (6 * j) + nI 2 = nI (6 * j + 2) from nI_add _ _]
          refine va_sld hx hb hX hbl hbA hS (vp_in_nI (show 6 * j + 2 < L by omega) (by omega)) d_law_324 ?_
          refine lv_aload_n hx hb d_law_325 rfl (lv_at hl 0 rfl) ?_
          refine lv_iload_n hx hb d_law_326 rfl (lv_at hl 3 rfl) ?_
          refine lv_iconst (v := nI 3) hx hb d_law_327 (by decide) ?_
          refine lv_iadd hx hb d_law_328 ?_
          rw [show nI (6 * j) + nI 3 = nI (6 * j + 3) from nI_add _ _]
          refine va_sld hx hb hX hbl hbA hS (vp_in_nI (show 6 * j + 3 < L by omega) (by omega)) d_law_329 ?_
          refine lv_aload_n hx hb d_law_330 rfl (lv_at hl 0 rfl) ?_
          refine lv_iload_n hx hb d_law_331 rfl (lv_at hl 3 rfl) ?_
          refine lv_iconst (v := nI 4) hx hb d_law_332 (by decide) ?_
          refine lv_iadd hx hb d_law_333 ?_
          rw [show nI (6 * j) + nI 4 = nI (6 * j + 4) from nI_add _ _]
          refine va_sld hx hb hX hbl hbA hS (vp_in_nI (show 6 * j + 4 < L by omega) (by omega)) d_law_334 ?_
          refine gc_V (q := (R_Mo, F_Mo, 44)) (n := 4) [.int (xs (nI (6 * j + 1)).toNatClampNeg), .int (xs (nI (6 * j + 2)).toNatClampNeg), .int (xs (nI (6 * j + 3)).toNatClampNeg), .int (xs (nI (6 * j + 4)).toNatClampNeg)] [.int r] hx hb hml hown htc hK hN hXX hP hS hw rfl hh0 k_948 k_949 k_950 k_10 k_951 (by decide +kernel) ⟨by decide, by decide⟩ rfl hl.1 rfl (Nat.le_of_ble_eq_true rfl) d_law_335 ⟨by decide, by decide⟩ (fun r2 N2 M2 H locs hw hP hS => ?_)
          obtain ⟨rfl, rfl, hLS2⟩ := hw
          refine W.eq (g2 := F0 m 338 ls [.int r2, .int r2]) rfl ?_
          refine lv_icmp_eq (tgt := 626) hx hb d_law_338 (by decide) (fun _ => ?_) (fun q => absurd rfl q)
          refine lv_iinc (v := nI (6 * (j + 1))) (lv' := [(3, .int (nI (6 * (j + 1)))), (0, .ref b), (1, .ref g), (2, .ref h)]) hx hb d_law_626 hl (k := 3) rfl (by rw [show Int32.ofInt 6 = nI 6 from rfl, nI_add, show 6 * j + 6 = 6 * (j + 1) by omega]) (by decide) rfl (fun ls hl => ?_)
          refine lv_goto (tgt := 18) hx hb d_law_629 (by decide) ?_
          exact ih (j + 1) (k + 1) _ _ _ ls (by omega) (by omega) (by omega) hLS2 hP hS (lv_sub hl [1, 2, 3, 0] rfl)
        · skip
          refine lv_tableIn (off := 310) (tgt := 343) hx hb d_law_33 (by decide) (by decide) (by decide) (by decide) ?_
          refine lv_aload_n hx hb d_law_343 rfl (lv_at hl 1 rfl) ?_
          refine lv_aload_n hx hb d_law_344 rfl (lv_at hl 0 rfl) ?_
          refine lv_iload_n hx hb d_law_345 rfl (lv_at hl 3 rfl) ?_
          refine lv_iconst (v := nI 1) hx hb d_law_346 (by decide) ?_
          refine lv_iadd hx hb d_law_347 ?_
          rw [show nI (6 * j) + nI 1 = nI (6 * j + 1) from nI_add _ _]
          refine va_sld hx hb hX hbl hbA hS (vp_in_nI (show 6 * j + 1 < L by omega) (by omega)) d_law_348 ?_
          refine lv_aload_n hx hb d_law_349 rfl (lv_at hl 0 rfl) ?_
          refine lv_iload_n hx hb d_law_350 rfl (lv_at hl 3 rfl) ?_
          refine lv_iconst (v := nI 2) hx hb d_law_351 (by decide) ?_
          refine lv_iadd hx hb d_law_352 ?_
          rw [show nI (6 * j) + nI 2 = nI (6 * j + 2) from nI_add _ _]
          refine va_sld hx hb hX hbl hbA hS (vp_in_nI (show 6 * j + 2 < L by omega) (by omega)) d_law_353 ?_
          obtain ⟨fs, hg0⟩ := LwS_g hLS
          refine gc_V (q := (R_Pg, F_Pg, 15)) (n := 2) [.int (xs (nI (6 * j + 1)).toNatClampNeg), .int (xs (nI (6 * j + 2)).toNatClampNeg)] [] hx hb hml hown htc hK hN hXX hP hS (x_outward (xs (nI (6 * j + 1)).toNatClampNeg) (xs (nI (6 * j + 2)).toNatClampNeg) (by omega) hLS) rfl hg0 k_550 k_551 k_552 k_1 k_553 (by decide +kernel) ⟨by decide, by decide⟩ rfl hl.1 rfl (Nat.le_of_ble_eq_true rfl) d_law_354 ⟨by decide, by decide⟩ (fun r N1 M1 H locs hw hP hS => ?_)
          obtain ⟨rfl, ⟨fs2, hh0⟩, hw⟩ := hw
          refine W.eq (g2 := F0 m 357 ls [.int r]) rfl ?_
          refine lv_aload_n hx hb d_law_357 rfl (lv_at hl 2 rfl) ?_
          refine lv_aload_n hx hb d_law_358 rfl (lv_at hl 0 rfl) ?_
          refine lv_iload_n hx hb d_law_359 rfl (lv_at hl 3 rfl) ?_
          refine lv_iconst (v := nI 1) hx hb d_law_360 (by decide) ?_
          refine lv_iadd hx hb d_law_361 ?_
          rw [show nI (6 * j) + nI 1 = nI (6 * j + 1) from nI_add _ _]
          refine va_sld hx hb hX hbl hbA hS (vp_in_nI (show 6 * j + 1 < L by omega) (by omega)) d_law_362 ?_
          refine lv_aload_n hx hb d_law_363 rfl (lv_at hl 0 rfl) ?_
          refine lv_iload_n hx hb d_law_364 rfl (lv_at hl 3 rfl) ?_
          refine lv_iconst (v := nI 2) hx hb d_law_365 (by decide) ?_
          refine lv_iadd hx hb d_law_366 ?_
          rw [show nI (6 * j) + nI 2 = nI (6 * j + 2) from nI_add _ _]
          refine va_sld hx hb hX hbl hbA hS (vp_in_nI (show 6 * j + 2 < L by omega) (by omega)) d_law_367 ?_
          refine gc_V (q := (R_Mo, F_Mo, 44)) (n := 2) [.int (xs (nI (6 * j + 1)).toNatClampNeg), .int (xs (nI (6 * j + 2)).toNatClampNeg)] [.int r] hx hb hml hown htc hK hN hXX hP hS hw rfl hh0 k_952 k_953 k_954 k_10 k_955 (by decide +kernel) ⟨by decide, by decide⟩ rfl hl.1 rfl (Nat.le_of_ble_eq_true rfl) d_law_368 ⟨by decide, by decide⟩ (fun r2 N2 M2 H locs hw hP hS => ?_)
          obtain ⟨rfl, rfl, hLS2⟩ := hw
          refine W.eq (g2 := F0 m 371 ls [.int r2, .int r2]) rfl ?_
          refine lv_icmp_eq (tgt := 626) hx hb d_law_371 (by decide) (fun _ => ?_) (fun q => absurd rfl q)
          refine lv_iinc (v := nI (6 * (j + 1))) (lv' := [(3, .int (nI (6 * (j + 1)))), (0, .ref b), (1, .ref g), (2, .ref h)]) hx hb d_law_626 hl (k := 3) rfl (by rw [show Int32.ofInt 6 = nI 6 from rfl, nI_add, show 6 * j + 6 = 6 * (j + 1) by omega]) (by decide) rfl (fun ls hl => ?_)
          refine lv_goto (tgt := 18) hx hb d_law_629 (by decide) ?_
          exact ih (j + 1) (k + 1) _ _ _ ls (by omega) (by omega) (by omega) hLS2 hP hS (lv_sub hl [1, 2, 3, 0] rfl)
        · skip
          refine lv_tableIn (off := 343) (tgt := 376) hx hb d_law_33 (by decide) (by decide) (by decide) (by decide) ?_
          refine lv_aload_n hx hb d_law_376 rfl (lv_at hl 1 rfl) ?_
          refine lv_aload_n hx hb d_law_377 rfl (lv_at hl 0 rfl) ?_
          refine lv_iload_n hx hb d_law_378 rfl (lv_at hl 3 rfl) ?_
          refine lv_iconst (v := nI 1) hx hb d_law_379 (by decide) ?_
          refine lv_iadd hx hb d_law_380 ?_
          rw [show nI (6 * j) + nI 1 = nI (6 * j + 1) from nI_add _ _]
          refine va_sld hx hb hX hbl hbA hS (vp_in_nI (show 6 * j + 1 < L by omega) (by omega)) d_law_381 ?_
          refine lv_aload_n hx hb d_law_382 rfl (lv_at hl 0 rfl) ?_
          refine lv_iload_n hx hb d_law_383 rfl (lv_at hl 3 rfl) ?_
          refine lv_iconst (v := nI 2) hx hb d_law_384 (by decide) ?_
          refine lv_iadd hx hb d_law_385 ?_
          rw [show nI (6 * j) + nI 2 = nI (6 * j + 2) from nI_add _ _]
          refine va_sld hx hb hX hbl hbA hS (vp_in_nI (show 6 * j + 2 < L by omega) (by omega)) d_law_386 ?_
          obtain ⟨fs, hg0⟩ := LwS_g hLS
          refine gc_V (q := (R_Pg, F_Pg, 15)) (n := 2) [.int (xs (nI (6 * j + 1)).toNatClampNeg), .int (xs (nI (6 * j + 2)).toNatClampNeg)] [] hx hb hml hown htc hK hN hXX hP hS (x_inward (xs (nI (6 * j + 1)).toNatClampNeg) (xs (nI (6 * j + 2)).toNatClampNeg) (by omega) hLS) rfl hg0 k_653 k_654 k_655 k_1 k_656 (by decide +kernel) ⟨by decide, by decide⟩ rfl hl.1 rfl (Nat.le_of_ble_eq_true rfl) d_law_387 ⟨by decide, by decide⟩ (fun r N1 M1 H locs hw hP hS => ?_)
          obtain ⟨rfl, ⟨fs2, hh0⟩, hw⟩ := hw
          refine W.eq (g2 := F0 m 390 ls [.int r]) rfl ?_
          refine lv_aload_n hx hb d_law_390 rfl (lv_at hl 2 rfl) ?_
          refine lv_aload_n hx hb d_law_391 rfl (lv_at hl 0 rfl) ?_
          refine lv_iload_n hx hb d_law_392 rfl (lv_at hl 3 rfl) ?_
          refine lv_iconst (v := nI 1) hx hb d_law_393 (by decide) ?_
          refine lv_iadd hx hb d_law_394 ?_
          rw [show nI (6 * j) + nI 1 = nI (6 * j + 1) from nI_add _ _]
          refine va_sld hx hb hX hbl hbA hS (vp_in_nI (show 6 * j + 1 < L by omega) (by omega)) d_law_395 ?_
          refine lv_aload_n hx hb d_law_396 rfl (lv_at hl 0 rfl) ?_
          refine lv_iload_n hx hb d_law_397 rfl (lv_at hl 3 rfl) ?_
          refine lv_iconst (v := nI 2) hx hb d_law_398 (by decide) ?_
          refine lv_iadd hx hb d_law_399 ?_
          rw [show nI (6 * j) + nI 2 = nI (6 * j + 2) from nI_add _ _]
          refine va_sld hx hb hX hbl hbA hS (vp_in_nI (show 6 * j + 2 < L by omega) (by omega)) d_law_400 ?_
          refine gc_V (q := (R_Mo, F_Mo, 44)) (n := 2) [.int (xs (nI (6 * j + 1)).toNatClampNeg), .int (xs (nI (6 * j + 2)).toNatClampNeg)] [.int r] hx hb hml hown htc hK hN hXX hP hS hw rfl hh0 k_994 k_995 k_996 k_10 k_997 (by decide +kernel) ⟨by decide, by decide⟩ rfl hl.1 rfl (Nat.le_of_ble_eq_true rfl) d_law_401 ⟨by decide, by decide⟩ (fun r2 N2 M2 H locs hw hP hS => ?_)
          obtain ⟨rfl, rfl, hLS2⟩ := hw
          refine W.eq (g2 := F0 m 404 ls [.int r2, .int r2]) rfl ?_
          refine lv_icmp_eq (tgt := 626) hx hb d_law_404 (by decide) (fun _ => ?_) (fun q => absurd rfl q)
          refine lv_iinc (v := nI (6 * (j + 1))) (lv' := [(3, .int (nI (6 * (j + 1)))), (0, .ref b), (1, .ref g), (2, .ref h)]) hx hb d_law_626 hl (k := 3) rfl (by rw [show Int32.ofInt 6 = nI 6 from rfl, nI_add, show 6 * j + 6 = 6 * (j + 1) by omega]) (by decide) rfl (fun ls hl => ?_)
          refine lv_goto (tgt := 18) hx hb d_law_629 (by decide) ?_
          exact ih (j + 1) (k + 1) _ _ _ ls (by omega) (by omega) (by omega) hLS2 hP hS (lv_sub hl [1, 2, 3, 0] rfl)
        · skip
          refine lv_tableIn (off := 376) (tgt := 409) hx hb d_law_33 (by decide) (by decide) (by decide) (by decide) ?_
          refine lv_aload_n hx hb d_law_409 rfl (lv_at hl 1 rfl) ?_
          refine lv_aload_n hx hb d_law_410 rfl (lv_at hl 0 rfl) ?_
          refine lv_iload_n hx hb d_law_411 rfl (lv_at hl 3 rfl) ?_
          refine lv_iconst (v := nI 1) hx hb d_law_412 (by decide) ?_
          refine lv_iadd hx hb d_law_413 ?_
          rw [show nI (6 * j) + nI 1 = nI (6 * j + 1) from nI_add _ _]
          refine va_sld hx hb hX hbl hbA hS (vp_in_nI (show 6 * j + 1 < L by omega) (by omega)) d_law_414 ?_
          obtain ⟨fs, hg0⟩ := LwS_g hLS
          refine gc_V (q := (R_Pg, F_Pg, 15)) (n := 1) [.int (xs (nI (6 * j + 1)).toNatClampNeg)] [] hx hb hml hown htc hK hN hXX hP hS (x_report (xs (nI (6 * j + 1)).toNatClampNeg) (by omega) hLS) rfl hg0 k_669 k_670 k_671 k_1 k_672 (by decide +kernel) ⟨by decide, by decide⟩ rfl hl.1 rfl (Nat.le_of_ble_eq_true rfl) d_law_415 ⟨by decide, by decide⟩ (fun r N1 M1 H locs hw hP hS => ?_)
          obtain ⟨rfl, ⟨fs2, hh0⟩, hw⟩ := hw
          refine W.eq (g2 := F0 m 418 ls [.int r]) rfl ?_
          refine lv_aload_n hx hb d_law_418 rfl (lv_at hl 2 rfl) ?_
          refine lv_aload_n hx hb d_law_419 rfl (lv_at hl 0 rfl) ?_
          refine lv_iload_n hx hb d_law_420 rfl (lv_at hl 3 rfl) ?_
          refine lv_iconst (v := nI 1) hx hb d_law_421 (by decide) ?_
          refine lv_iadd hx hb d_law_422 ?_
          rw [show nI (6 * j) + nI 1 = nI (6 * j + 1) from nI_add _ _]
          refine va_sld hx hb hX hbl hbA hS (vp_in_nI (show 6 * j + 1 < L by omega) (by omega)) d_law_423 ?_
          refine gc_V (q := (R_Mo, F_Mo, 44)) (n := 1) [.int (xs (nI (6 * j + 1)).toNatClampNeg)] [.int r] hx hb hml hown htc hK hN hXX hP hS hw rfl hh0 k_998 k_999 k_1000 k_10 k_1001 (by decide +kernel) ⟨by decide, by decide⟩ rfl hl.1 rfl (Nat.le_of_ble_eq_true rfl) d_law_424 ⟨by decide, by decide⟩ (fun r2 N2 M2 H locs hw hP hS => ?_)
          obtain ⟨rfl, rfl, hLS2⟩ := hw
          refine W.eq (g2 := F0 m 427 ls [.int r2, .int r2]) rfl ?_
          refine lv_icmp_eq (tgt := 626) hx hb d_law_427 (by decide) (fun _ => ?_) (fun q => absurd rfl q)
          refine lv_iinc (v := nI (6 * (j + 1))) (lv' := [(3, .int (nI (6 * (j + 1)))), (0, .ref b), (1, .ref g), (2, .ref h)]) hx hb d_law_626 hl (k := 3) rfl (by rw [show Int32.ofInt 6 = nI 6 from rfl, nI_add, show 6 * j + 6 = 6 * (j + 1) by omega]) (by decide) rfl (fun ls hl => ?_)
          refine lv_goto (tgt := 18) hx hb d_law_629 (by decide) ?_
          exact ih (j + 1) (k + 1) _ _ _ ls (by omega) (by omega) (by omega) hLS2 hP hS (lv_sub hl [1, 2, 3, 0] rfl)
        · skip
          refine lv_tableIn (off := 399) (tgt := 432) hx hb d_law_33 (by decide) (by decide) (by decide) (by decide) ?_
          refine lv_aload_n hx hb d_law_432 rfl (lv_at hl 1 rfl) ?_
          refine lv_aload_n hx hb d_law_433 rfl (lv_at hl 0 rfl) ?_
          refine lv_iload_n hx hb d_law_434 rfl (lv_at hl 3 rfl) ?_
          refine lv_iconst (v := nI 1) hx hb d_law_435 (by decide) ?_
          refine lv_iadd hx hb d_law_436 ?_
          rw [show nI (6 * j) + nI 1 = nI (6 * j + 1) from nI_add _ _]
          refine va_sld hx hb hX hbl hbA hS (vp_in_nI (show 6 * j + 1 < L by omega) (by omega)) d_law_437 ?_
          refine lv_aload_n hx hb d_law_438 rfl (lv_at hl 0 rfl) ?_
          refine lv_iload_n hx hb d_law_439 rfl (lv_at hl 3 rfl) ?_
          refine lv_iconst (v := nI 2) hx hb d_law_440 (by decide) ?_
          refine lv_iadd hx hb d_law_441 ?_
          rw [show nI (6 * j) + nI 2 = nI (6 * j + 2) from nI_add _ _]
          refine va_sld hx hb hX hbl hbA hS (vp_in_nI (show 6 * j + 2 < L by omega) (by omega)) d_law_442 ?_
          refine lv_aload_n hx hb d_law_443 rfl (lv_at hl 0 rfl) ?_
          refine lv_iload_n hx hb d_law_444 rfl (lv_at hl 3 rfl) ?_
          refine lv_iconst (v := nI 3) hx hb d_law_445 (by decide) ?_
          refine lv_iadd hx hb d_law_446 ?_
          rw [show nI (6 * j) + nI 3 = nI (6 * j + 3) from nI_add _ _]
          refine va_sld hx hb hX hbl hbA hS (vp_in_nI (show 6 * j + 3 < L by omega) (by omega)) d_law_447 ?_
          refine lv_if_eq (tgt := 455) hx hb d_law_448 (by decide) (fun cz => ?_) (fun cz => ?_)
          · skip
            refine lv_iconst (v := nI 0) hx hb d_law_455 (by decide) ?_
            refine lv_aload_n hx hb d_law_456 rfl (lv_at hl 0 rfl) ?_
            refine lv_iload_n hx hb d_law_457 rfl (lv_at hl 3 rfl) ?_
            refine lv_iconst (v := nI 4) hx hb d_law_458 (by decide) ?_
            refine lv_iadd hx hb d_law_459 ?_
            rw [show nI (6 * j) + nI 4 = nI (6 * j + 4) from nI_add _ _]
            refine va_sld hx hb hX hbl hbA hS (vp_in_nI (show 6 * j + 4 < L by omega) (by omega)) d_law_460 ?_
            refine lv_aload_n hx hb d_law_461 rfl (lv_at hl 0 rfl) ?_
            refine lv_iload_n hx hb d_law_462 rfl (lv_at hl 3 rfl) ?_
            refine lv_iconst (v := nI 5) hx hb d_law_463 (by decide) ?_
            refine lv_iadd hx hb d_law_464 ?_
            rw [show nI (6 * j) + nI 5 = nI (6 * j + 5) from nI_add _ _]
            refine va_sld hx hb hX hbl hbA hS (vp_in_nI (show 6 * j + 5 < L by omega) (by omega)) d_law_465 ?_
            obtain ⟨fs, hg0⟩ := LwS_g hLS
            refine gc_V (q := (R_Pg, F_Pg, 15)) (n := 5) [.int (xs (nI (6 * j + 1)).toNatClampNeg), .int (xs (nI (6 * j + 2)).toNatClampNeg), .int (nI 0), .int (xs (nI (6 * j + 4)).toNatClampNeg), .int (xs (nI (6 * j + 5)).toNatClampNeg)] [] hx hb hml hown htc hK hN hXX hP hS (x_unseal (xs (nI (6 * j + 1)).toNatClampNeg) (xs (nI (6 * j + 2)).toNatClampNeg) (xs (nI (6 * j + 4)).toNatClampNeg) (xs (nI (6 * j + 5)).toNatClampNeg) 0 (by decide) (by omega) hLS) rfl hg0 k_677 k_678 k_679 k_1 k_680 (by decide +kernel) ⟨by decide, by decide⟩ rfl hl.1 rfl (Nat.le_of_ble_eq_true rfl) d_law_466 ⟨by decide, by decide⟩ (fun r N1 M1 H locs hw hP hS => ?_)
            obtain ⟨rfl, ⟨fs2, hh0⟩, hw⟩ := hw
            refine W.eq (g2 := F0 m 469 ls [.int r]) rfl ?_
            refine lv_aload_n hx hb d_law_469 rfl (lv_at hl 2 rfl) ?_
            refine lv_aload_n hx hb d_law_470 rfl (lv_at hl 0 rfl) ?_
            refine lv_iload_n hx hb d_law_471 rfl (lv_at hl 3 rfl) ?_
            refine lv_iconst (v := nI 1) hx hb d_law_472 (by decide) ?_
            refine lv_iadd hx hb d_law_473 ?_
            rw [show nI (6 * j) + nI 1 = nI (6 * j + 1) from nI_add _ _]
            refine va_sld hx hb hX hbl hbA hS (vp_in_nI (show 6 * j + 1 < L by omega) (by omega)) d_law_474 ?_
            refine lv_aload_n hx hb d_law_475 rfl (lv_at hl 0 rfl) ?_
            refine lv_iload_n hx hb d_law_476 rfl (lv_at hl 3 rfl) ?_
            refine lv_iconst (v := nI 2) hx hb d_law_477 (by decide) ?_
            refine lv_iadd hx hb d_law_478 ?_
            rw [show nI (6 * j) + nI 2 = nI (6 * j + 2) from nI_add _ _]
            refine va_sld hx hb hX hbl hbA hS (vp_in_nI (show 6 * j + 2 < L by omega) (by omega)) d_law_479 ?_
            refine lv_aload_n hx hb d_law_480 rfl (lv_at hl 0 rfl) ?_
            refine lv_iload_n hx hb d_law_481 rfl (lv_at hl 3 rfl) ?_
            refine lv_iconst (v := nI 3) hx hb d_law_482 (by decide) ?_
            refine lv_iadd hx hb d_law_483 ?_
            rw [show nI (6 * j) + nI 3 = nI (6 * j + 3) from nI_add _ _]
            refine va_sld hx hb hX hbl hbA hS (vp_in_nI (show 6 * j + 3 < L by omega) (by omega)) d_law_484 ?_
            refine lv_if_eq (tgt := 492) hx hb d_law_485 (by decide) (fun _ => ?_) (fun q => absurd cz q)
            refine lv_iconst (v := nI 0) hx hb d_law_492 (by decide) ?_
            refine lv_aload_n hx hb d_law_493 rfl (lv_at hl 0 rfl) ?_
            refine lv_iload_n hx hb d_law_494 rfl (lv_at hl 3 rfl) ?_
            refine lv_iconst (v := nI 4) hx hb d_law_495 (by decide) ?_
            refine lv_iadd hx hb d_law_496 ?_
            rw [show nI (6 * j) + nI 4 = nI (6 * j + 4) from nI_add _ _]
            refine va_sld hx hb hX hbl hbA hS (vp_in_nI (show 6 * j + 4 < L by omega) (by omega)) d_law_497 ?_
            refine lv_aload_n hx hb d_law_498 rfl (lv_at hl 0 rfl) ?_
            refine lv_iload_n hx hb d_law_499 rfl (lv_at hl 3 rfl) ?_
            refine lv_iconst (v := nI 5) hx hb d_law_500 (by decide) ?_
            refine lv_iadd hx hb d_law_501 ?_
            rw [show nI (6 * j) + nI 5 = nI (6 * j + 5) from nI_add _ _]
            refine va_sld hx hb hX hbl hbA hS (vp_in_nI (show 6 * j + 5 < L by omega) (by omega)) d_law_502 ?_
            refine gc_V (q := (R_Mo, F_Mo, 44)) (n := 5) [.int (xs (nI (6 * j + 1)).toNatClampNeg), .int (xs (nI (6 * j + 2)).toNatClampNeg), .int (nI 0), .int (xs (nI (6 * j + 4)).toNatClampNeg), .int (xs (nI (6 * j + 5)).toNatClampNeg)] [.int r] hx hb hml hown htc hK hN hXX hP hS hw rfl hh0 k_1002 k_1003 k_1004 k_10 k_1005 (by decide +kernel) ⟨by decide, by decide⟩ rfl hl.1 rfl (Nat.le_of_ble_eq_true rfl) d_law_503 ⟨by decide, by decide⟩ (fun r2 N2 M2 H locs hw hP hS => ?_)
            obtain ⟨rfl, rfl, hLS2⟩ := hw
            refine W.eq (g2 := F0 m 506 ls [.int r2, .int r2]) rfl ?_
            refine lv_icmp_eq (tgt := 626) hx hb d_law_506 (by decide) (fun _ => ?_) (fun q => absurd rfl q)
            refine lv_iinc (v := nI (6 * (j + 1))) (lv' := [(3, .int (nI (6 * (j + 1)))), (0, .ref b), (1, .ref g), (2, .ref h)]) hx hb d_law_626 hl (k := 3) rfl (by rw [show Int32.ofInt 6 = nI 6 from rfl, nI_add, show 6 * j + 6 = 6 * (j + 1) by omega]) (by decide) rfl (fun ls hl => ?_)
            refine lv_goto (tgt := 18) hx hb d_law_629 (by decide) ?_
            exact ih (j + 1) (k + 1) _ _ _ ls (by omega) (by omega) (by omega) hLS2 hP hS (lv_sub hl [1, 2, 3, 0] rfl)
          · skip
            refine lv_iconst (v := nI 1) hx hb d_law_451 (by decide) ?_
            refine lv_goto (tgt := 456) hx hb d_law_452 (by decide) ?_
            refine lv_aload_n hx hb d_law_456 rfl (lv_at hl 0 rfl) ?_
            refine lv_iload_n hx hb d_law_457 rfl (lv_at hl 3 rfl) ?_
            refine lv_iconst (v := nI 4) hx hb d_law_458 (by decide) ?_
            refine lv_iadd hx hb d_law_459 ?_
            rw [show nI (6 * j) + nI 4 = nI (6 * j + 4) from nI_add _ _]
            refine va_sld hx hb hX hbl hbA hS (vp_in_nI (show 6 * j + 4 < L by omega) (by omega)) d_law_460 ?_
            refine lv_aload_n hx hb d_law_461 rfl (lv_at hl 0 rfl) ?_
            refine lv_iload_n hx hb d_law_462 rfl (lv_at hl 3 rfl) ?_
            refine lv_iconst (v := nI 5) hx hb d_law_463 (by decide) ?_
            refine lv_iadd hx hb d_law_464 ?_
            rw [show nI (6 * j) + nI 5 = nI (6 * j + 5) from nI_add _ _]
            refine va_sld hx hb hX hbl hbA hS (vp_in_nI (show 6 * j + 5 < L by omega) (by omega)) d_law_465 ?_
            obtain ⟨fs, hg0⟩ := LwS_g hLS
            refine gc_V (q := (R_Pg, F_Pg, 15)) (n := 5) [.int (xs (nI (6 * j + 1)).toNatClampNeg), .int (xs (nI (6 * j + 2)).toNatClampNeg), .int (nI 1), .int (xs (nI (6 * j + 4)).toNatClampNeg), .int (xs (nI (6 * j + 5)).toNatClampNeg)] [] hx hb hml hown htc hK hN hXX hP hS (x_unseal (xs (nI (6 * j + 1)).toNatClampNeg) (xs (nI (6 * j + 2)).toNatClampNeg) (xs (nI (6 * j + 4)).toNatClampNeg) (xs (nI (6 * j + 5)).toNatClampNeg) 1 (by decide) (by omega) hLS) rfl hg0 k_677 k_678 k_679 k_1 k_680 (by decide +kernel) ⟨by decide, by decide⟩ rfl hl.1 rfl (Nat.le_of_ble_eq_true rfl) d_law_466 ⟨by decide, by decide⟩ (fun r N1 M1 H locs hw hP hS => ?_)
            obtain ⟨rfl, ⟨fs2, hh0⟩, hw⟩ := hw
            refine W.eq (g2 := F0 m 469 ls [.int r]) rfl ?_
            refine lv_aload_n hx hb d_law_469 rfl (lv_at hl 2 rfl) ?_
            refine lv_aload_n hx hb d_law_470 rfl (lv_at hl 0 rfl) ?_
            refine lv_iload_n hx hb d_law_471 rfl (lv_at hl 3 rfl) ?_
            refine lv_iconst (v := nI 1) hx hb d_law_472 (by decide) ?_
            refine lv_iadd hx hb d_law_473 ?_
            rw [show nI (6 * j) + nI 1 = nI (6 * j + 1) from nI_add _ _]
            refine va_sld hx hb hX hbl hbA hS (vp_in_nI (show 6 * j + 1 < L by omega) (by omega)) d_law_474 ?_
            refine lv_aload_n hx hb d_law_475 rfl (lv_at hl 0 rfl) ?_
            refine lv_iload_n hx hb d_law_476 rfl (lv_at hl 3 rfl) ?_
            refine lv_iconst (v := nI 2) hx hb d_law_477 (by decide) ?_
            refine lv_iadd hx hb d_law_478 ?_
            rw [show nI (6 * j) + nI 2 = nI (6 * j + 2) from nI_add _ _]
            refine va_sld hx hb hX hbl hbA hS (vp_in_nI (show 6 * j + 2 < L by omega) (by omega)) d_law_479 ?_
            refine lv_aload_n hx hb d_law_480 rfl (lv_at hl 0 rfl) ?_
            refine lv_iload_n hx hb d_law_481 rfl (lv_at hl 3 rfl) ?_
            refine lv_iconst (v := nI 3) hx hb d_law_482 (by decide) ?_
            refine lv_iadd hx hb d_law_483 ?_
            rw [show nI (6 * j) + nI 3 = nI (6 * j + 3) from nI_add _ _]
            refine va_sld hx hb hX hbl hbA hS (vp_in_nI (show 6 * j + 3 < L by omega) (by omega)) d_law_484 ?_
            refine lv_if_eq (tgt := 492) hx hb d_law_485 (by decide) (fun q => absurd q cz) (fun _ => ?_)
            refine lv_iconst (v := nI 1) hx hb d_law_488 (by decide) ?_
            refine lv_goto (tgt := 493) hx hb d_law_489 (by decide) ?_
            refine lv_aload_n hx hb d_law_493 rfl (lv_at hl 0 rfl) ?_
            refine lv_iload_n hx hb d_law_494 rfl (lv_at hl 3 rfl) ?_
            refine lv_iconst (v := nI 4) hx hb d_law_495 (by decide) ?_
            refine lv_iadd hx hb d_law_496 ?_
            rw [show nI (6 * j) + nI 4 = nI (6 * j + 4) from nI_add _ _]
            refine va_sld hx hb hX hbl hbA hS (vp_in_nI (show 6 * j + 4 < L by omega) (by omega)) d_law_497 ?_
            refine lv_aload_n hx hb d_law_498 rfl (lv_at hl 0 rfl) ?_
            refine lv_iload_n hx hb d_law_499 rfl (lv_at hl 3 rfl) ?_
            refine lv_iconst (v := nI 5) hx hb d_law_500 (by decide) ?_
            refine lv_iadd hx hb d_law_501 ?_
            rw [show nI (6 * j) + nI 5 = nI (6 * j + 5) from nI_add _ _]
            refine va_sld hx hb hX hbl hbA hS (vp_in_nI (show 6 * j + 5 < L by omega) (by omega)) d_law_502 ?_
            refine gc_V (q := (R_Mo, F_Mo, 44)) (n := 5) [.int (xs (nI (6 * j + 1)).toNatClampNeg), .int (xs (nI (6 * j + 2)).toNatClampNeg), .int (nI 1), .int (xs (nI (6 * j + 4)).toNatClampNeg), .int (xs (nI (6 * j + 5)).toNatClampNeg)] [.int r] hx hb hml hown htc hK hN hXX hP hS hw rfl hh0 k_1002 k_1003 k_1004 k_10 k_1005 (by decide +kernel) ⟨by decide, by decide⟩ rfl hl.1 rfl (Nat.le_of_ble_eq_true rfl) d_law_503 ⟨by decide, by decide⟩ (fun r2 N2 M2 H locs hw hP hS => ?_)
            obtain ⟨rfl, rfl, hLS2⟩ := hw
            refine W.eq (g2 := F0 m 506 ls [.int r2, .int r2]) rfl ?_
            refine lv_icmp_eq (tgt := 626) hx hb d_law_506 (by decide) (fun _ => ?_) (fun q => absurd rfl q)
            refine lv_iinc (v := nI (6 * (j + 1))) (lv' := [(3, .int (nI (6 * (j + 1)))), (0, .ref b), (1, .ref g), (2, .ref h)]) hx hb d_law_626 hl (k := 3) rfl (by rw [show Int32.ofInt 6 = nI 6 from rfl, nI_add, show 6 * j + 6 = 6 * (j + 1) by omega]) (by decide) rfl (fun ls hl => ?_)
            refine lv_goto (tgt := 18) hx hb d_law_629 (by decide) ?_
            exact ih (j + 1) (k + 1) _ _ _ ls (by omega) (by omega) (by omega) hLS2 hP hS (lv_sub hl [1, 2, 3, 0] rfl)
        · skip
          refine lv_tableIn (off := 478) (tgt := 511) hx hb d_law_33 (by decide) (by decide) (by decide) (by decide) ?_
          refine lv_aload_n hx hb d_law_511 rfl (lv_at hl 1 rfl) ?_
          obtain ⟨fs, hg0⟩ := LwS_g hLS
          refine gc_V (q := (R_Pg, F_Pg, 15)) (n := 0) [] [] hx hb hml hown htc hK hN hXX hP hS (x_rekey  (by omega) hLS) rfl hg0 k_693 k_694 k_695 k_1 k_696 (by decide +kernel) ⟨by decide, by decide⟩ rfl hl.1 rfl (Nat.le_of_ble_eq_true rfl) d_law_512 ⟨by decide, by decide⟩ (fun r N1 M1 H locs hw hP hS => ?_)
          obtain ⟨rfl, ⟨fs2, hh0⟩, hw⟩ := hw
          refine W.eq (g2 := F0 m 515 ls [.int r]) rfl ?_
          refine lv_aload_n hx hb d_law_515 rfl (lv_at hl 2 rfl) ?_
          refine gc_V (q := (R_Mo, F_Mo, 44)) (n := 0) [] [.int r] hx hb hml hown htc hK hN hXX hP hS hw rfl hh0 k_1010 k_1011 k_1012 k_10 k_1013 (by decide +kernel) ⟨by decide, by decide⟩ rfl hl.1 rfl (Nat.le_of_ble_eq_true rfl) d_law_516 ⟨by decide, by decide⟩ (fun r2 N2 M2 H locs hw hP hS => ?_)
          obtain ⟨rfl, rfl, hLS2⟩ := hw
          refine W.eq (g2 := F0 m 519 ls [.int r2, .int r2]) rfl ?_
          refine lv_icmp_eq (tgt := 626) hx hb d_law_519 (by decide) (fun _ => ?_) (fun q => absurd rfl q)
          refine lv_iinc (v := nI (6 * (j + 1))) (lv' := [(3, .int (nI (6 * (j + 1)))), (0, .ref b), (1, .ref g), (2, .ref h)]) hx hb d_law_626 hl (k := 3) rfl (by rw [show Int32.ofInt 6 = nI 6 from rfl, nI_add, show 6 * j + 6 = 6 * (j + 1) by omega]) (by decide) rfl (fun ls hl => ?_)
          refine lv_goto (tgt := 18) hx hb d_law_629 (by decide) ?_
          exact ih (j + 1) (k + 1) _ _ _ ls (by omega) (by omega) (by omega) hLS2 hP hS (lv_sub hl [1, 2, 3, 0] rfl)
        · skip
          refine lv_tableIn (off := 491) (tgt := 524) hx hb d_law_33 (by decide) (by decide) (by decide) (by decide) ?_
          refine lv_aload_n hx hb d_law_524 rfl (lv_at hl 1 rfl) ?_
          refine lv_aload_n hx hb d_law_525 rfl (lv_at hl 0 rfl) ?_
          refine lv_iload_n hx hb d_law_526 rfl (lv_at hl 3 rfl) ?_
          refine lv_iconst (v := nI 1) hx hb d_law_527 (by decide) ?_
          refine lv_iadd hx hb d_law_528 ?_
          rw [show nI (6 * j) + nI 1 = nI (6 * j + 1) from nI_add _ _]
          refine va_sld hx hb hX hbl hbA hS (vp_in_nI (show 6 * j + 1 < L by omega) (by omega)) d_law_529 ?_
          obtain ⟨fs, hg0⟩ := LwS_g hLS
          refine gc_V (q := (R_Pg, F_Pg, 15)) (n := 1) [.int (xs (nI (6 * j + 1)).toNatClampNeg)] [] hx hb hml hown htc hK hN hXX hP hS (x_tick (xs (nI (6 * j + 1)).toNatClampNeg) (by omega) hLS) rfl hg0 k_697 k_698 k_699 k_1 k_700 (by decide +kernel) ⟨by decide, by decide⟩ rfl hl.1 rfl (Nat.le_of_ble_eq_true rfl) d_law_530 ⟨by decide, by decide⟩ (fun r N1 M1 H locs hw hP hS => ?_)
          obtain ⟨rfl, ⟨fs2, hh0⟩, hw⟩ := hw
          refine W.eq (g2 := F0 m 533 ls [.int r]) rfl ?_
          refine lv_aload_n hx hb d_law_533 rfl (lv_at hl 2 rfl) ?_
          refine lv_aload_n hx hb d_law_534 rfl (lv_at hl 0 rfl) ?_
          refine lv_iload_n hx hb d_law_535 rfl (lv_at hl 3 rfl) ?_
          refine lv_iconst (v := nI 1) hx hb d_law_536 (by decide) ?_
          refine lv_iadd hx hb d_law_537 ?_
          rw [show nI (6 * j) + nI 1 = nI (6 * j + 1) from nI_add _ _]
          refine va_sld hx hb hX hbl hbA hS (vp_in_nI (show 6 * j + 1 < L by omega) (by omega)) d_law_538 ?_
          refine gc_V (q := (R_Mo, F_Mo, 44)) (n := 1) [.int (xs (nI (6 * j + 1)).toNatClampNeg)] [.int r] hx hb hml hown htc hK hN hXX hP hS hw rfl hh0 k_1014 k_1015 k_1016 k_10 k_1017 (by decide +kernel) ⟨by decide, by decide⟩ rfl hl.1 rfl (Nat.le_of_ble_eq_true rfl) d_law_539 ⟨by decide, by decide⟩ (fun r2 N2 M2 H locs hw hP hS => ?_)
          obtain ⟨rfl, rfl, hLS2⟩ := hw
          refine W.eq (g2 := F0 m 542 ls [.int r2, .int r2]) rfl ?_
          refine lv_icmp_eq (tgt := 626) hx hb d_law_542 (by decide) (fun _ => ?_) (fun q => absurd rfl q)
          refine lv_iinc (v := nI (6 * (j + 1))) (lv' := [(3, .int (nI (6 * (j + 1)))), (0, .ref b), (1, .ref g), (2, .ref h)]) hx hb d_law_626 hl (k := 3) rfl (by rw [show Int32.ofInt 6 = nI 6 from rfl, nI_add, show 6 * j + 6 = 6 * (j + 1) by omega]) (by decide) rfl (fun ls hl => ?_)
          refine lv_goto (tgt := 18) hx hb d_law_629 (by decide) ?_
          exact ih (j + 1) (k + 1) _ _ _ ls (by omega) (by omega) (by omega) hLS2 hP hS (lv_sub hl [1, 2, 3, 0] rfl)
        · skip
          refine lv_tableIn (off := 514) (tgt := 547) hx hb d_law_33 (by decide) (by decide) (by decide) (by decide) ?_
          refine lv_aload_n hx hb d_law_547 rfl (lv_at hl 1 rfl) ?_
          refine lv_aload_n hx hb d_law_548 rfl (lv_at hl 0 rfl) ?_
          refine lv_iload_n hx hb d_law_549 rfl (lv_at hl 3 rfl) ?_
          refine lv_iconst (v := nI 1) hx hb d_law_550 (by decide) ?_
          refine lv_iadd hx hb d_law_551 ?_
          rw [show nI (6 * j) + nI 1 = nI (6 * j + 1) from nI_add _ _]
          refine va_sld hx hb hX hbl hbA hS (vp_in_nI (show 6 * j + 1 < L by omega) (by omega)) d_law_552 ?_
          obtain ⟨fs, hg0⟩ := LwS_g hLS
          refine gc_V (q := (R_Pg, F_Pg, 15)) (n := 1) [.int (xs (nI (6 * j + 1)).toNatClampNeg)] [] hx hb hml hown htc hK hN hXX hP hS (x_emission (xs (nI (6 * j + 1)).toNatClampNeg) (by omega) hLS) rfl hg0 k_711 k_712 k_713 k_1 k_714 (by decide +kernel) ⟨by decide, by decide⟩ rfl hl.1 rfl (Nat.le_of_ble_eq_true rfl) d_law_553 ⟨by decide, by decide⟩ (fun r N1 M1 H locs hw hP hS => ?_)
          obtain ⟨rfl, ⟨fs2, hh0⟩, hw⟩ := hw
          refine W.eq (g2 := F0 m 556 ls [.int r]) rfl ?_
          refine lv_aload_n hx hb d_law_556 rfl (lv_at hl 2 rfl) ?_
          refine lv_aload_n hx hb d_law_557 rfl (lv_at hl 0 rfl) ?_
          refine lv_iload_n hx hb d_law_558 rfl (lv_at hl 3 rfl) ?_
          refine lv_iconst (v := nI 1) hx hb d_law_559 (by decide) ?_
          refine lv_iadd hx hb d_law_560 ?_
          rw [show nI (6 * j) + nI 1 = nI (6 * j + 1) from nI_add _ _]
          refine va_sld hx hb hX hbl hbA hS (vp_in_nI (show 6 * j + 1 < L by omega) (by omega)) d_law_561 ?_
          refine gc_V (q := (R_Mo, F_Mo, 44)) (n := 1) [.int (xs (nI (6 * j + 1)).toNatClampNeg)] [.int r] hx hb hml hown htc hK hN hXX hP hS hw rfl hh0 k_1021 k_1022 k_1023 k_10 k_1024 (by decide +kernel) ⟨by decide, by decide⟩ rfl hl.1 rfl (Nat.le_of_ble_eq_true rfl) d_law_562 ⟨by decide, by decide⟩ (fun r2 N2 M2 H locs hw hP hS => ?_)
          obtain ⟨rfl, rfl, hLS2⟩ := hw
          refine W.eq (g2 := F0 m 565 ls [.int r2, .int r2]) rfl ?_
          refine lv_icmp_eq (tgt := 626) hx hb d_law_565 (by decide) (fun _ => ?_) (fun q => absurd rfl q)
          refine lv_iinc (v := nI (6 * (j + 1))) (lv' := [(3, .int (nI (6 * (j + 1)))), (0, .ref b), (1, .ref g), (2, .ref h)]) hx hb d_law_626 hl (k := 3) rfl (by rw [show Int32.ofInt 6 = nI 6 from rfl, nI_add, show 6 * j + 6 = 6 * (j + 1) by omega]) (by decide) rfl (fun ls hl => ?_)
          refine lv_goto (tgt := 18) hx hb d_law_629 (by decide) ?_
          exact ih (j + 1) (k + 1) _ _ _ ls (by omega) (by omega) (by omega) hLS2 hP hS (lv_sub hl [1, 2, 3, 0] rfl)
        · skip
          refine lv_tableIn (off := 537) (tgt := 570) hx hb d_law_33 (by decide) (by decide) (by decide) (by decide) ?_
          refine lv_aload_n hx hb d_law_570 rfl (lv_at hl 1 rfl) ?_
          refine lv_aload_n hx hb d_law_571 rfl (lv_at hl 0 rfl) ?_
          refine lv_iload_n hx hb d_law_572 rfl (lv_at hl 3 rfl) ?_
          refine lv_iconst (v := nI 1) hx hb d_law_573 (by decide) ?_
          refine lv_iadd hx hb d_law_574 ?_
          rw [show nI (6 * j) + nI 1 = nI (6 * j + 1) from nI_add _ _]
          refine va_sld hx hb hX hbl hbA hS (vp_in_nI (show 6 * j + 1 < L by omega) (by omega)) d_law_575 ?_
          refine lv_aload_n hx hb d_law_576 rfl (lv_at hl 0 rfl) ?_
          refine lv_iload_n hx hb d_law_577 rfl (lv_at hl 3 rfl) ?_
          refine lv_iconst (v := nI 2) hx hb d_law_578 (by decide) ?_
          refine lv_iadd hx hb d_law_579 ?_
          rw [show nI (6 * j) + nI 2 = nI (6 * j + 2) from nI_add _ _]
          refine va_sld hx hb hX hbl hbA hS (vp_in_nI (show 6 * j + 2 < L by omega) (by omega)) d_law_580 ?_
          obtain ⟨fs, hg0⟩ := LwS_g hLS
          refine gc_V (q := (R_Pg, F_Pg, 15)) (n := 2) [.int (xs (nI (6 * j + 1)).toNatClampNeg), .int (xs (nI (6 * j + 2)).toNatClampNeg)] [] hx hb hml hown htc hK hN hXX hP hS (x_flow (xs (nI (6 * j + 1)).toNatClampNeg) (xs (nI (6 * j + 2)).toNatClampNeg) (by omega) hLS) rfl hg0 k_715 k_716 k_717 k_1 k_718 (by decide +kernel) ⟨by decide, by decide⟩ rfl hl.1 rfl (Nat.le_of_ble_eq_true rfl) d_law_581 ⟨by decide, by decide⟩ (fun r N1 M1 H locs hw hP hS => ?_)
          obtain ⟨rfl, ⟨fs2, hh0⟩, hw⟩ := hw
          refine W.eq (g2 := F0 m 584 ls [.int r]) rfl ?_
          refine lv_aload_n hx hb d_law_584 rfl (lv_at hl 2 rfl) ?_
          refine lv_aload_n hx hb d_law_585 rfl (lv_at hl 0 rfl) ?_
          refine lv_iload_n hx hb d_law_586 rfl (lv_at hl 3 rfl) ?_
          refine lv_iconst (v := nI 1) hx hb d_law_587 (by decide) ?_
          refine lv_iadd hx hb d_law_588 ?_
          rw [show nI (6 * j) + nI 1 = nI (6 * j + 1) from nI_add _ _]
          refine va_sld hx hb hX hbl hbA hS (vp_in_nI (show 6 * j + 1 < L by omega) (by omega)) d_law_589 ?_
          refine lv_aload_n hx hb d_law_590 rfl (lv_at hl 0 rfl) ?_
          refine lv_iload_n hx hb d_law_591 rfl (lv_at hl 3 rfl) ?_
          refine lv_iconst (v := nI 2) hx hb d_law_592 (by decide) ?_
          refine lv_iadd hx hb d_law_593 ?_
          rw [show nI (6 * j) + nI 2 = nI (6 * j + 2) from nI_add _ _]
          refine va_sld hx hb hX hbl hbA hS (vp_in_nI (show 6 * j + 2 < L by omega) (by omega)) d_law_594 ?_
          refine gc_V (q := (R_Mo, F_Mo, 44)) (n := 2) [.int (xs (nI (6 * j + 1)).toNatClampNeg), .int (xs (nI (6 * j + 2)).toNatClampNeg)] [.int r] hx hb hml hown htc hK hN hXX hP hS hw rfl hh0 k_1025 k_1026 k_1027 k_10 k_1028 (by decide +kernel) ⟨by decide, by decide⟩ rfl hl.1 rfl (Nat.le_of_ble_eq_true rfl) d_law_595 ⟨by decide, by decide⟩ (fun r2 N2 M2 H locs hw hP hS => ?_)
          obtain ⟨rfl, rfl, hLS2⟩ := hw
          refine W.eq (g2 := F0 m 598 ls [.int r2, .int r2]) rfl ?_
          refine lv_icmp_eq (tgt := 626) hx hb d_law_598 (by decide) (fun _ => ?_) (fun q => absurd rfl q)
          refine lv_iinc (v := nI (6 * (j + 1))) (lv' := [(3, .int (nI (6 * (j + 1)))), (0, .ref b), (1, .ref g), (2, .ref h)]) hx hb d_law_626 hl (k := 3) rfl (by rw [show Int32.ofInt 6 = nI 6 from rfl, nI_add, show 6 * j + 6 = 6 * (j + 1) by omega]) (by decide) rfl (fun ls hl => ?_)
          refine lv_goto (tgt := 18) hx hb d_law_629 (by decide) ?_
          exact ih (j + 1) (k + 1) _ _ _ ls (by omega) (by omega) (by omega) hLS2 hP hS (lv_sub hl [1, 2, 3, 0] rfl)
        · skip
          refine lv_tableIn (off := 570) (tgt := 603) hx hb d_law_33 (by decide) (by decide) (by decide) (by decide) ?_
          refine lv_aload_n hx hb d_law_603 rfl (lv_at hl 1 rfl) ?_
          refine lv_aload_n hx hb d_law_604 rfl (lv_at hl 0 rfl) ?_
          refine lv_iload_n hx hb d_law_605 rfl (lv_at hl 3 rfl) ?_
          refine lv_iconst (v := nI 1) hx hb d_law_606 (by decide) ?_
          refine lv_iadd hx hb d_law_607 ?_
          rw [show nI (6 * j) + nI 1 = nI (6 * j + 1) from nI_add _ _]
          refine va_sld hx hb hX hbl hbA hS (vp_in_nI (show 6 * j + 1 < L by omega) (by omega)) d_law_608 ?_
          obtain ⟨fs, hg0⟩ := LwS_g hLS
          refine gc_V (q := (R_Pg, F_Pg, 15)) (n := 1) [.int (xs (nI (6 * j + 1)).toNatClampNeg)] [] hx hb hml hown htc hK hN hXX hP hS (x_count (xs (nI (6 * j + 1)).toNatClampNeg) (by omega) hLS) rfl hg0 k_729 k_730 k_731 k_1 k_732 (by decide +kernel) ⟨by decide, by decide⟩ rfl hl.1 rfl (Nat.le_of_ble_eq_true rfl) d_law_609 ⟨by decide, by decide⟩ (fun r N1 M1 H locs hw hP hS => ?_)
          obtain ⟨rfl, ⟨fs2, hh0⟩, hw⟩ := hw
          refine W.eq (g2 := F0 m 612 ls [.int r]) rfl ?_
          refine lv_aload_n hx hb d_law_612 rfl (lv_at hl 2 rfl) ?_
          refine lv_aload_n hx hb d_law_613 rfl (lv_at hl 0 rfl) ?_
          refine lv_iload_n hx hb d_law_614 rfl (lv_at hl 3 rfl) ?_
          refine lv_iconst (v := nI 1) hx hb d_law_615 (by decide) ?_
          refine lv_iadd hx hb d_law_616 ?_
          rw [show nI (6 * j) + nI 1 = nI (6 * j + 1) from nI_add _ _]
          refine va_sld hx hb hX hbl hbA hS (vp_in_nI (show 6 * j + 1 < L by omega) (by omega)) d_law_617 ?_
          refine gc_V (q := (R_Mo, F_Mo, 44)) (n := 1) [.int (xs (nI (6 * j + 1)).toNatClampNeg)] [.int r] hx hb hml hown htc hK hN hXX hP hS hw rfl hh0 k_1029 k_1030 k_1031 k_10 k_1032 (by decide +kernel) ⟨by decide, by decide⟩ rfl hl.1 rfl (Nat.le_of_ble_eq_true rfl) d_law_618 ⟨by decide, by decide⟩ (fun r2 N2 M2 H locs hw hP hS => ?_)
          obtain ⟨rfl, rfl, hLS2⟩ := hw
          refine W.eq (g2 := F0 m 621 ls [.int r2, .int r2]) rfl ?_
          refine lv_icmp_eq (tgt := 626) hx hb d_law_621 (by decide) (fun _ => ?_) (fun q => absurd rfl q)
          refine lv_iinc (v := nI (6 * (j + 1))) (lv' := [(3, .int (nI (6 * (j + 1)))), (0, .ref b), (1, .ref g), (2, .ref h)]) hx hb d_law_626 hl (k := 3) rfl (by rw [show Int32.ofInt 6 = nI 6 from rfl, nI_add, show 6 * j + 6 = 6 * (j + 1) by omega]) (by decide) rfl (fun ls hl => ?_)
          refine lv_goto (tgt := 18) hx hb d_law_629 (by decide) ?_
          exact ih (j + 1) (k + 1) _ _ _ ls (by omega) (by omega) (by omega) hLS2 hP hS (lv_sub hl [1, 2, 3, 0] rfl)
end C49
