section C27
variable {l : Launch} {D : va_G} {ca : Nat → ClassId} {A : Nat → Prop} {G : gG} {N : Nat} {M : gm_M}

noncomputable def repF (ne : Nat) (pp po pi : Nat → Nat) (nf : Nat) (fl : Nat → Nat → Nat) (em : Nat → Nat) (so ta pr0 : Nat) : Int32 × (Nat → Nat) :=
  if ¬ so / 256 = 200 then (-4, em) else match mpE ne pp po pi nf fl pr0 (so % 256) with
  | none => (-4, em)
  | some i => (match ffP (fun k => fl k 0 = pr0 ∧ fl k 1 = i ∧ fl k 2 = ta) nf with
    | none => (-4, em)
    | some _ => (nI 0, eUp em (i / 256) (i % 256) (ta / 256) (ta % 256)))
/-- too old, or accepted before, by top and window -/
def repl (tp sq : Nat) (ac : Int32) : Prop := sq ≤ tp ∧ (32 ≤ tp - sq ∨ ¬ (ac.toUInt32 >>> ((nI (tp - sq)).toUInt32 &&& Int32.toUInt32 31)).toInt32 &&& nI 1 = 0)
def accB (tp sq : Nat) (ac : Int32) : Int32 := if tp < sq then (if sq - tp < 32 then ac <<< (nI (sq - tp) &&& 31) ||| nI 1 else nI 1) else ac ||| nI 1 <<< (nI (tp - sq) &&& 31)
/-- what follows when a sealed packet was accepted -/
noncomputable def seF (nr : Nat) (ru lw hw : Nat → Nat → Nat) (em : Nat → Nat) (so ta pr0 : Nat) : Int32 × (Nat → Nat) :=
  if ¬ ((127 < so / 256 ∧ so / 256 ≠ 200) ∧ ta / 256 ≤ 127) then (-5, em) else if ¬ polF ru lw hw nr 0 pr0 so ta = 2 then (-4, em) else (nI 0, eUp em (so / 256) (so % 256) (ta / 256) (ta % 256))
set_option maxHeartbeats 4000000 in
set_option maxRecDepth 100000 in
theorem c_Pg_passInward {g cu be so ta tm lt nt : Nat} {bp : Int32} {nr : Nat} {ra : Nat → Nat} {ne : Nat} {pp : Nat → Nat} {po : Nat → Nat} {pi : Nat → Nat} {nf : Nat} {fa : Nat → Nat} {em : Nat → Nat} {cn cs ct ce : Nat} {cb : Int32} {fl : Nat → Nat → Nat} {ru lw hw : Nat → Nat → Nat} {pr0 f0 : Nat} (eg : M g = some (.inr (8, [.ref (g + 1), .ref (g + 3), .ref (g + 4), .ref (g + 57), .ref (g + 59), .ref (g + 63), .ref (g + 81), .ref cu, .ref be, .int (nI so), .int (nI ta), .int (nI tm), .int (nI lt), .int (nI nt), .int bp]))) (eb : M (g + 4) = some (.inr (6, [.ref (g + 5), .int (nI nr)]))) (ea : M (g + 5) = some (.inl (ca 2, 17, .inr (.inr (.inr (.inr (oF ra))))))) (ex0 : M (g + 59) = some (.inr (1, [.ref (g + 60), .ref (g + 61), .ref (g + 62), .int (nI ne)]))) (ex1 : M (g + 60) = some (.inl (ca 0, 4, .inl (iN pp)))) (ex2 : M (g + 61) = some (.inl (ca 0, 4, .inl (iN po)))) (ex3 : M (g + 62) = some (.inl (ca 0, 4, .inl (iN pi)))) (ef : M (g + 63) = some (.inr (3, [.ref (g + 64), .int (nI nf)]))) (efa : M (g + 64) = some (.inl (ca 3, 16, .inr (.inr (.inr (.inr (oF fa))))))) (eem : M (g + 81) = some (.inl (ca 0, 4, .inl (iN em)))) (ecu : M cu = some (.inr (0, [.int (nI cn), .int (nI cs), .int (nI ct), .int (nI ce), .int cb]))) (hne : ne ≤ 4) (hpp : ∀ k, pp k < 65536) (hpo : ∀ k, po k < 65536) (hpi : ∀ k, pi k < 65536) (hf : ∀ fi, fi < 16 → M (fa fi) = some (.inr (2, [.int (nI (fl fi 0)), .int (nI (fl fi 1)), .int (nI (fl fi 2)), .int (nI (fl fi 3)), .int (nI (fl fi 4)), .int (nI (fl fi 5)), .int (nI (fl fi 6)), .int (nI (fl fi 7))]))) (hnf : nf ≤ 16) (hA : okA (g + 65) fa) (hF : okF fl) (hr1 : ∀ fi, fi < nr → M (ra fi) = some (.inr (5, [.int (nI (ru fi 0)), .int (nI (ru fi 1)), .int (nI (ru fi 2)), .ref (ra fi + 1), .ref (ra fi + 2)]))) (hr2 : ∀ fi, fi < 17 → M (ra fi + 1) = some (.inl (ca 0, 3, .inl (iN (lw fi))))) (hr3 : ∀ fi, fi < 17 → M (ra fi + 2) = some (.inl (ca 0, 3, .inl (iN (hw fi))))) (hnr : nr ≤ 16) (hR : okR (g + 6) ra) (hU : okU nr ru lw hw) (hso : so < 65536) (hta : ta < 65536) (htm : tm < 600000) (hcu : g + 82 ≤ cu ∧ cu ≤ g + 83) (hcs0 : cs ≤ 40) (hcn : cn < 600000) (hpr0 : pr0 ≤ 2) (hf0 : f0 ≤ 15) (hF3 : ∀ k, k < nf → fl k 3 < 65536) : gC l D ca A G y_Pg_passInward (.code y_Pg_passInward b_Pg_passInward 5 (some .int)) ({ frames := 4, cells := 0, slots := 0, locals := 93 }) N M [.ref g, .int (nI pr0), .int (nI f0)] gm_i (fun (r : Int32) (N1 : Nat) (M1 : gm_M) => N = N1 ∧ ∃ (r0 : Int32) (fa1 : Nat → Nat) (fl1 : Nat → Nat → Nat) (n1 : Nat) (em1 : Nat → Nat) (cs1 : Nat), (inF ne pp po pi nr ru lw hw nf fl em cn cs so ta tm pr0 f0 = (r0, fl1, n1, em1, cs1)) ∧ (n1 ≤ 16) ∧ (okA (g + 65) fa1) ∧ (okF fl1) ∧ (cs1 ≤ 40) ∧ M1 (g + 63) = some (.inr (3, [.ref (g + 64), .int (nI n1)])) ∧ M1 (g + 64) = some (.inl (ca 3, 16, .inr (.inr (.inr (.inr (oF fa1)))))) ∧ M1 (g + 81) = some (.inl (ca 0, 4, .inl (iN em1))) ∧ M1 cu = some (.inr (0, [.int (nI cn), .int (nI cs1), .int (nI ct), .int (nI ce), .int cb])) ∧ (∀ fi, fi < 16 → M1 (fa1 fi) = some (.inr (2, [.int (nI (fl1 fi 0)), .int (nI (fl1 fi 1)), .int (nI (fl1 fi 2)), .int (nI (fl1 fi 3)), .int (nI (fl1 fi 4)), .int (nI (fl1 fi 5)), .int (nI (fl1 fi 6)), .int (nI (fl1 fi 7))]))) ∧ (∀ z, z ≠ (g + 63) → z ≠ (g + 64) → z ≠ (g + 81) → z ≠ cu → ¬ ((g + 65) ≤ z ∧ z < (g + 65) + 16) → M1 z = M z) ∧ r0 = r) := by
  refine gm_body (by decide) (Nat.le_of_ble_eq_true rfl) (fun p e s m below meth c ls hx hb hr hts hown hlk hml hnm hP hK hN hX hS hl => ?_)
  have htl : ∀ w ∈ LW, w.before _ s = true := fun w h => hts w (List.mem_cons_of_mem _ h)
  have hown : s.vm.findClass "PacketGate" = some m.cls := hown
  have hl : lv_has ls 5 [(0, .ref g), (1, .int (nI pr0)), (2, .int (nI f0))] := hl
  have hfb : ∀ i q, fl i q < 1000000 := fun i q => (hF i).1 q
  refine lv_aload_n hx hb d_Pg_passInward_0 rfl (lv_at hl 0 rfl) ?_
  refine gm_get (C := R_Pg) (T := F_Pg) (n := 15) hx hb htl i_Pg hown hK hP eg rfl 9 (by decide) (htl _ k_206) (fun _ h => h) rfl d_Pg_passInward_1 ?_
  refine gc_S (n := 1) [.int (nI so)] [] hx hb hml hown hts hK hN hX hP hS (c_Pg_isOutside so (by omega)) k_564 k_565 k_1 k_566 (by decide +kernel) ⟨by decide, by decide⟩ rfl hl.1 rfl (Nat.le_of_ble_eq_true rfl) d_Pg_passInward_4 ⟨by decide, by decide⟩ (fun r N1 M_1 H locs hw hP hS => ?_)
  obtain ⟨rfl, hw⟩ := hw
  rcases hw with ⟨c_2, rfl, rfl⟩ | ⟨c_3, rfl, rfl⟩
  · skip
    refine W.eq (g2 := F0 m 7 ls [.int (nI 1)]) rfl ?_
    refine lv_if_eq (tgt := 23) hx hb d_Pg_passInward_7 (by decide) (fun q => absurd q (by decide)) (fun _ => ?_)
    refine lv_aload_n hx hb d_Pg_passInward_10 rfl (lv_at hl 0 rfl) ?_
    refine gm_get (C := R_Pg) (T := F_Pg) (n := 15) hx hb htl i_Pg hown hK hP eg rfl 10 (by decide) (htl _ k_207) (fun _ h => h) rfl d_Pg_passInward_11 ?_
    refine gc_S (n := 1) [.int (nI ta)] [] hx hb hml hown hts hK hN hX hP hS (c_Pg_addressOf ta (by omega)) k_561 k_562 k_1 k_563 (by decide +kernel) ⟨by decide, by decide⟩ rfl hl.1 rfl (Nat.le_of_ble_eq_true rfl) d_Pg_passInward_14 ⟨by decide, by decide⟩ (fun r N1 M_4 H locs hw hP hS => ?_)
    obtain ⟨rfl, hw⟩ := hw
    obtain ⟨rfl, rfl⟩ := hw
    refine W.eq (g2 := F0 m 17 ls [.int (nI (ta / 256))]) rfl ?_
    refine lv_sipush (v := nI 200) hx hb d_Pg_passInward_17 (by decide) ?_
    refine ln_eq (tgt := 26) hx hb d_Pg_passInward_20 (by decide) (by omega) (by omega) (fun c_5 => ?_) (fun c_5 => ?_)
    · skip
      refine lv_aload_n hx hb d_Pg_passInward_26 rfl (lv_at hl 0 rfl) ?_
      refine lv_iload_n hx hb d_Pg_passInward_27 rfl (lv_at hl 1 rfl) ?_
      refine lv_aload_n hx hb d_Pg_passInward_28 rfl (lv_at hl 0 rfl) ?_
      refine gm_get (C := R_Pg) (T := F_Pg) (n := 15) hx hb htl i_Pg hown hK hP eg rfl 10 (by decide) (htl _ k_207) (fun _ h => h) rfl d_Pg_passInward_29 ?_
      refine gc_S (n := 1) [.int (nI ta)] [.int (nI pr0), .ref g] hx hb hml hown hts hK hN hX hP hS (c_Pg_portOf ta (by omega)) k_601 k_602 k_1 k_603 (by decide +kernel) ⟨by decide, by decide⟩ rfl hl.1 rfl (Nat.le_of_ble_eq_true rfl) d_Pg_passInward_32 ⟨by decide, by decide⟩ (fun r N1 M_6 H locs hw hP hS => ?_)
      obtain ⟨rfl, hw⟩ := hw
      obtain ⟨rfl, rfl⟩ := hw
      refine W.eq (g2 := F0 m 35 ls [.int (nI (ta % 256)), .int (nI pr0), .ref g]) rfl ?_
      refine gc_V (q := (R_Pg, F_Pg, 15)) (n := 2) [.int (nI pr0), .int (nI (ta % 256))] [] hx hb hml hown hts hK hN hX hP hS (c_Pg_mappedEndpoint eg ex0 ex1 ex2 ex3 ef efa (by omega) hpp hpo hpi hf (by omega) hA hF (by omega) (by omega)) rfl eg k_489 k_491 ks_Pg_mappedEndpoint k_1 k_492 (by decide +kernel) ⟨by decide, by decide⟩ rfl hl.1 rfl (Nat.le_of_ble_eq_true rfl) d_Pg_passInward_35 ⟨by decide, by decide⟩ (fun r N1 M_7 H locs hw hP hS => ?_)
      obtain ⟨rfl, hw⟩ := hw
      rcases hw with ⟨kv_8, c_9, c_10, c_11, rfl, rfl⟩ | ⟨kv_12, c_13, c_14, c_15, c_16, rfl, rfl⟩ | ⟨c_17, c_18, rfl, rfl⟩
      · skip
        refine W.eq (g2 := F0 m 38 ls [.int (nI (pi kv_8))]) rfl ?_
        have hm_19 := mpE_1 (po := po) (pi := pi) (nf := nf) (fl := fl) c_9 c_10 c_11
        have b_20 := hpi kv_8
        refine lv_istore_n (lv' := [(3, .int (nI (pi kv_8))), (0, .ref g), (1, .int (nI pr0)), (2, .int (nI f0))]) hx hb d_Pg_passInward_38 rfl hl (by decide) rfl (fun ls hl => ?_)
        refine lv_iload_n hx hb d_Pg_passInward_39 rfl (lv_at hl 0 rfl) ?_
        refine lv_iconst (v := (-1)) hx hb d_Pg_passInward_40 (by decide) ?_
        refine lv_icmp_ne (tgt := 47) hx hb d_Pg_passInward_41 (by decide) (fun _ => ?_) (fun q => absurd q (nI_nm1 (by omega)))
        refine lv_aload_n hx hb d_Pg_passInward_47 rfl (lv_at hl 1 rfl) ?_
        refine gm_get (C := R_Pg) (T := F_Pg) (n := 15) hx hb htl i_Pg hown hK hP eg rfl 5 (by decide) (htl _ k_202) (fun _ h => h) rfl d_Pg_passInward_48 ?_
        refine lv_iload_n hx hb d_Pg_passInward_51 rfl (lv_at hl 2 rfl) ?_
        refine lv_iload_n hx hb d_Pg_passInward_52 rfl (lv_at hl 0 rfl) ?_
        refine lv_aload_n hx hb d_Pg_passInward_53 rfl (lv_at hl 1 rfl) ?_
        refine gm_get (C := R_Pg) (T := F_Pg) (n := 15) hx hb htl i_Pg hown hK hP eg rfl 9 (by decide) (htl _ k_206) (fun _ h => h) rfl d_Pg_passInward_54 ?_
        refine gc_V (q := (R_Ft, F_Ft, 2)) (n := 3) [.int (nI pr0), .int (nI (pi kv_8)), .int (nI so)] [] hx hb hml hown hts hK hN hX hP hS (c_Ft_find ef efa hf (by omega) hA hF (by omega) (by omega) (by omega)) rfl ef k_567 k_568 k_569 k_7 k_570 (by decide +kernel) ⟨by decide, by decide⟩ rfl hl.1 rfl (Nat.le_of_ble_eq_true rfl) d_Pg_passInward_57 ⟨by decide, by decide⟩ (fun r N1 M_21 H locs hw hP hS => ?_)
        obtain ⟨rfl, hw⟩ := hw
        rcases hw with ⟨kv_22, c_23, c_24, c_25, rfl, rfl⟩ | ⟨c_26, rfl, rfl⟩
        · skip
          refine W.eq (g2 := F0 m 60 ls [.int (nI kv_22)]) rfl ?_
          have hq_27 := ffP_some (P := fun k => fl k 0 = pr0 ∧ fl k 1 = (pi kv_8) ∧ fl k 2 = so) c_23 c_24 c_25
          have b_28 := hF3 kv_22 c_23
          have b_29 := hfb kv_22 3
          refine lv_istore (lv' := [(4, .int (nI kv_22)), (3, .int (nI (pi kv_8))), (0, .ref g), (1, .int (nI pr0)), (2, .int (nI f0))]) hx hb d_Pg_passInward_60 hl (by decide) rfl (fun ls hl => ?_)
          refine lv_iload hx hb d_Pg_passInward_62 (lv_at hl 0 rfl) ?_
          refine lv_iconst (v := (-1)) hx hb d_Pg_passInward_64 (by decide) ?_
          refine lv_icmp_eq (tgt := 101) hx hb d_Pg_passInward_65 (by decide) (fun q => absurd q (nI_nm1 (by omega))) (fun _ => ?_)
          refine lv_aload_n hx hb d_Pg_passInward_68 rfl (lv_at hl 2 rfl) ?_
          refine gm_get (C := R_Pg) (T := F_Pg) (n := 15) hx hb htl i_Pg hown hK hP eg rfl 5 (by decide) (htl _ k_202) (fun _ h => h) rfl d_Pg_passInward_69 ?_
          refine lv_iload hx hb d_Pg_passInward_72 (lv_at hl 0 rfl) ?_
          refine lv_iconst (v := nI 0) hx hb d_Pg_passInward_74 (by decide) ?_
          refine lv_iload_n hx hb d_Pg_passInward_75 rfl (lv_at hl 4 rfl) ?_
          refine lv_aload_n hx hb d_Pg_passInward_76 rfl (lv_at hl 2 rfl) ?_
          refine gm_get (C := R_Pg) (T := F_Pg) (n := 15) hx hb htl i_Pg hown hK hP eg rfl 11 (by decide) (htl _ k_208) (fun _ h => h) rfl d_Pg_passInward_77 ?_
          refine gc_V (q := (R_Ft, F_Ft, 2)) (n := 4) [.int (nI kv_22), .int (nI 0), .int (nI f0), .int (nI tm)] [] hx hb hml hown hts hK hN hX hP hS (c_Ft_follow ef efa hf (by omega) hA hF (by omega) (by omega) (by omega) (by omega)) rfl ef k_575 k_576 k_577 k_7 k_578 (by decide +kernel) ⟨by decide, by decide⟩ rfl hl.1 rfl (Nat.le_of_ble_eq_true rfl) d_Pg_passInward_80 ⟨by decide, by decide⟩ (fun r N1 M_30 H locs hw hP hS => ?_)
          obtain ⟨rfl, hw⟩ := hw
          rcases hw with ⟨c_31, rfl, rfl⟩ | ⟨fa1v_32, fl1v_33, n1v_34, c_35, c_36, c_37, c_38, h_39, h_40, hfm_41, hfr_42, rfl⟩
          · skip
            refine W.eq (g2 := F0 m 83 ls [.int (nI 0)]) rfl ?_
            refine lv_if_eq (tgt := 98) hx hb d_Pg_passInward_83 (by decide) (fun _ => ?_) (fun q => absurd q (by decide))
            refine lv_bipush (v := (-6)) hx hb d_Pg_passInward_98 (by decide) ?_
            exact gc_iret hx hb hr hlk hP hS d_Pg_passInward_100 ⟨rfl, (-6), fa, fl, nf, em, cs, (by unfold inF; rw [if_neg (by omega), hm_19]; simp only [hq_27, c_31]), (by omega), hA, hF, (by omega), ef, efa, eem, ecu, hf, (fun z q0 q1 q2 q3 qr => rfl), rfl⟩
          · skip
            have h_43 := (hfr_42 _ (gm_ne eg ef (fun h => by cases h)) (gm_ne eg efa (fun h => by cases h)) (gm_ne eg (hf kv_22 (by omega)) (fun h => by cases h))).trans eg
            have h_44 := (hfr_42 _ (gm_ne eb ef (fun h => by cases h)) (gm_ne eb efa (fun h => by cases h)) (gm_ne eb (hf kv_22 (by omega)) (fun h => by cases h))).trans eb
            have h_45 := (hfr_42 _ (gm_ne ea ef (fun h => by cases h)) (gm_ne ea efa (fun h => by simp at h)) (gm_ne ea (hf kv_22 (by omega)) (fun h => by cases h))).trans ea
            have h_46 := (hfr_42 _ (gm_ne ex0 ef (fun h => by cases h)) (gm_ne ex0 efa (fun h => by cases h)) (gm_ne ex0 (hf kv_22 (by omega)) (fun h => by cases h))).trans ex0
            have h_47 := (hfr_42 _ (gm_ne ex1 ef (fun h => by cases h)) (gm_ne ex1 efa (fun h => by simp at h)) (gm_ne ex1 (hf kv_22 (by omega)) (fun h => by cases h))).trans ex1
            have h_48 := (hfr_42 _ (gm_ne ex2 ef (fun h => by cases h)) (gm_ne ex2 efa (fun h => by simp at h)) (gm_ne ex2 (hf kv_22 (by omega)) (fun h => by cases h))).trans ex2
            have h_49 := (hfr_42 _ (gm_ne ex3 ef (fun h => by cases h)) (gm_ne ex3 efa (fun h => by simp at h)) (gm_ne ex3 (hf kv_22 (by omega)) (fun h => by cases h))).trans ex3
            have h_50 := (hfr_42 _ (gm_ne eem ef (fun h => by cases h)) (gm_ne eem efa (fun h => by simp at h)) (gm_ne eem (hf kv_22 (by omega)) (fun h => by cases h))).trans eem
            have h_51 := (hfr_42 _ (gm_ne ecu ef (fun h => by cases h)) (gm_ne ecu efa (fun h => by cases h)) (gm_ne ecu (hf kv_22 (by omega)) (fun h => by cases h))).trans ecu
            have hfb_52 : ∀ i q, fl1v_33 i q < 1000000 := fun i q => (c_38 i).1 q
            have hf_53 : ∀ fi, fi < nr → M_30 (ra fi) = some (.inr (5, [.int (nI (ru fi 0)), .int (nI (ru fi 1)), .int (nI (ru fi 2)), .ref (ra fi + 1), .ref (ra fi + 2)])) := fun fi hfi => (hfr_42 _ (gm_ne (hr1 fi hfi) ef (fun h => by cases h)) (gm_ne (hr1 fi hfi) efa (fun h => by cases h)) (gm_ne (hr1 fi hfi) (hf kv_22 (by omega)) (fun h => by cases h))).trans (hr1 fi hfi)
            have hf_54 : ∀ fi, fi < 17 → M_30 (ra fi + 1) = some (.inl (ca 0, 3, .inl (iN (lw fi)))) := fun fi hfi => (hfr_42 _ (gm_ne (hr2 fi hfi) ef (fun h => by cases h)) (gm_ne (hr2 fi hfi) efa (fun h => by simp at h)) (gm_ne (hr2 fi hfi) (hf kv_22 (by omega)) (fun h => by cases h))).trans (hr2 fi hfi)
            have hf_55 : ∀ fi, fi < 17 → M_30 (ra fi + 2) = some (.inl (ca 0, 3, .inl (iN (hw fi)))) := fun fi hfi => (hfr_42 _ (gm_ne (hr3 fi hfi) ef (fun h => by cases h)) (gm_ne (hr3 fi hfi) efa (fun h => by simp at h)) (gm_ne (hr3 fi hfi) (hf kv_22 (by omega)) (fun h => by cases h))).trans (hr3 fi hfi)
            refine W.eq (g2 := F0 m 83 ls [.int (nI 1)]) rfl ?_
            refine lv_if_eq (tgt := 98) hx hb d_Pg_passInward_83 (by decide) (fun q => absurd q (by decide)) (fun _ => ?_)
            refine lv_aload_n hx hb d_Pg_passInward_86 rfl (lv_at hl 2 rfl) ?_
            refine lv_aload_n hx hb d_Pg_passInward_87 rfl (lv_at hl 2 rfl) ?_
            refine gm_get (C := R_Pg) (T := F_Pg) (n := 15) hx hb htl i_Pg hown hK hP h_43 rfl 9 (by decide) (htl _ k_206) (fun _ h => h) rfl d_Pg_passInward_88 ?_
            refine lv_iload_n hx hb d_Pg_passInward_91 rfl (lv_at hl 1 rfl) ?_
            refine gc_V (q := (R_Pg, F_Pg, 15)) (n := 2) [.int (nI so), .int (nI (pi kv_8))] [] hx hb hml hown hts hK hN hX hP hS (c_Pg_sendBetween h_43 h_50 (by omega) (by omega)) rfl h_43 k_661 k_663 ks_Pg_sendBetween k_1 k_664 (by decide +kernel) ⟨by decide, by decide⟩ rfl hl.1 rfl (Nat.le_of_ble_eq_true rfl) d_Pg_passInward_92 ⟨by decide, by decide⟩ (fun r N1 M_56 H locs hw hP hS => ?_)
            obtain ⟨rfl, hw⟩ := hw
            obtain ⟨rfl, rfl⟩ := hw
            have hP : gm_P D cls A N (gm_up M_30 (g + 81) (.inl (ca 0, 4, .inl (iN (va_up (va_up (va_up (va_up em 0 (so / 256)) 1 (so % 256)) 2 ((pi kv_8) / 256)) 3 ((pi kv_8) % 256)))))) H := hP
            have h_57 := gm_pass (k := (g + 81)) (y := .inl (ca 0, 4, .inl (iN (va_up (va_up (va_up (va_up em 0 (so / 256)) 1 (so % 256)) 2 ((pi kv_8) / 256)) 3 ((pi kv_8) % 256))))) h_43 (gm_ne h_43 h_50 (fun h => by cases h))
            have h_58 := gm_pass (k := (g + 81)) (y := .inl (ca 0, 4, .inl (iN (va_up (va_up (va_up (va_up em 0 (so / 256)) 1 (so % 256)) 2 ((pi kv_8) / 256)) 3 ((pi kv_8) % 256))))) h_44 (gm_ne h_44 h_50 (fun h => by cases h))
            have h_59 := gm_pass (k := (g + 81)) (y := .inl (ca 0, 4, .inl (iN (va_up (va_up (va_up (va_up em 0 (so / 256)) 1 (so % 256)) 2 ((pi kv_8) / 256)) 3 ((pi kv_8) % 256))))) h_45 (gm_ne h_45 h_50 (fun h => by simp at h))
            have h_60 := gm_pass (k := (g + 81)) (y := .inl (ca 0, 4, .inl (iN (va_up (va_up (va_up (va_up em 0 (so / 256)) 1 (so % 256)) 2 ((pi kv_8) / 256)) 3 ((pi kv_8) % 256))))) h_46 (gm_ne h_46 h_50 (fun h => by cases h))
            have h_61 := gm_pass (k := (g + 81)) (y := .inl (ca 0, 4, .inl (iN (va_up (va_up (va_up (va_up em 0 (so / 256)) 1 (so % 256)) 2 ((pi kv_8) / 256)) 3 ((pi kv_8) % 256))))) h_47 (by omega)
            have h_62 := gm_pass (k := (g + 81)) (y := .inl (ca 0, 4, .inl (iN (va_up (va_up (va_up (va_up em 0 (so / 256)) 1 (so % 256)) 2 ((pi kv_8) / 256)) 3 ((pi kv_8) % 256))))) h_48 (by omega)
            have h_63 := gm_pass (k := (g + 81)) (y := .inl (ca 0, 4, .inl (iN (va_up (va_up (va_up (va_up em 0 (so / 256)) 1 (so % 256)) 2 ((pi kv_8) / 256)) 3 ((pi kv_8) % 256))))) h_49 (by omega)
            have h_64 := gm_pass (k := (g + 81)) (y := .inl (ca 0, 4, .inl (iN (va_up (va_up (va_up (va_up em 0 (so / 256)) 1 (so % 256)) 2 ((pi kv_8) / 256)) 3 ((pi kv_8) % 256))))) h_51 (gm_ne h_51 h_50 (fun h => by cases h))
            have h_65 := gm_pass (k := (g + 81)) (y := .inl (ca 0, 4, .inl (iN (va_up (va_up (va_up (va_up em 0 (so / 256)) 1 (so % 256)) 2 ((pi kv_8) / 256)) 3 ((pi kv_8) % 256))))) h_39 (gm_ne h_39 h_50 (fun h => by cases h))
            have h_66 := gm_pass (k := (g + 81)) (y := .inl (ca 0, 4, .inl (iN (va_up (va_up (va_up (va_up em 0 (so / 256)) 1 (so % 256)) 2 ((pi kv_8) / 256)) 3 ((pi kv_8) % 256))))) h_40 (gm_ne h_40 h_50 (fun h => by simp at h))
            have h_67 := gm_up_self M_30 (g + 81) (.inl (ca 0, 4, .inl (iN (va_up (va_up (va_up (va_up em 0 (so / 256)) 1 (so % 256)) 2 ((pi kv_8) / 256)) 3 ((pi kv_8) % 256)))))
            have hf_68 : ∀ fi, fi < 16 → (gm_up M_30 (g + 81) (.inl (ca 0, 4, .inl (iN (va_up (va_up (va_up (va_up em 0 (so / 256)) 1 (so % 256)) 2 ((pi kv_8) / 256)) 3 ((pi kv_8) % 256)))))) (fa1v_32 fi) = some (.inr (2, [.int (nI (fl1v_33 fi 0)), .int (nI (fl1v_33 fi 1)), .int (nI (fl1v_33 fi 2)), .int (nI (fl1v_33 fi 3)), .int (nI (fl1v_33 fi 4)), .int (nI (fl1v_33 fi 5)), .int (nI (fl1v_33 fi 6)), .int (nI (fl1v_33 fi 7))])) := fun fi hfi => gm_pass (k := (g + 81)) (y := .inl (ca 0, 4, .inl (iN (va_up (va_up (va_up (va_up em 0 (so / 256)) 1 (so % 256)) 2 ((pi kv_8) / 256)) 3 ((pi kv_8) % 256))))) (hfm_41 fi hfi) (gm_ne (hfm_41 fi hfi) h_50 (fun h => by cases h))
            have hf_69 : ∀ fi, fi < nr → (gm_up M_30 (g + 81) (.inl (ca 0, 4, .inl (iN (va_up (va_up (va_up (va_up em 0 (so / 256)) 1 (so % 256)) 2 ((pi kv_8) / 256)) 3 ((pi kv_8) % 256)))))) (ra fi) = some (.inr (5, [.int (nI (ru fi 0)), .int (nI (ru fi 1)), .int (nI (ru fi 2)), .ref (ra fi + 1), .ref (ra fi + 2)])) := fun fi hfi => gm_pass (k := (g + 81)) (y := .inl (ca 0, 4, .inl (iN (va_up (va_up (va_up (va_up em 0 (so / 256)) 1 (so % 256)) 2 ((pi kv_8) / 256)) 3 ((pi kv_8) % 256))))) (hf_53 fi hfi) (gm_ne (hf_53 fi hfi) h_50 (fun h => by cases h))
            have hf_70 : ∀ fi, fi < 17 → (gm_up M_30 (g + 81) (.inl (ca 0, 4, .inl (iN (va_up (va_up (va_up (va_up em 0 (so / 256)) 1 (so % 256)) 2 ((pi kv_8) / 256)) 3 ((pi kv_8) % 256)))))) (ra fi + 1) = some (.inl (ca 0, 3, .inl (iN (lw fi)))) := fun fi hfi => gm_pass (k := (g + 81)) (y := .inl (ca 0, 4, .inl (iN (va_up (va_up (va_up (va_up em 0 (so / 256)) 1 (so % 256)) 2 ((pi kv_8) / 256)) 3 ((pi kv_8) % 256))))) (hf_54 fi hfi) (gm_ne (hf_54 fi hfi) h_50 (fun h => by simp at h))
            have hf_71 : ∀ fi, fi < 17 → (gm_up M_30 (g + 81) (.inl (ca 0, 4, .inl (iN (va_up (va_up (va_up (va_up em 0 (so / 256)) 1 (so % 256)) 2 ((pi kv_8) / 256)) 3 ((pi kv_8) % 256)))))) (ra fi + 2) = some (.inl (ca 0, 3, .inl (iN (hw fi)))) := fun fi hfi => gm_pass (k := (g + 81)) (y := .inl (ca 0, 4, .inl (iN (va_up (va_up (va_up (va_up em 0 (so / 256)) 1 (so % 256)) 2 ((pi kv_8) / 256)) 3 ((pi kv_8) % 256))))) (hf_55 fi hfi) (gm_ne (hf_55 fi hfi) h_50 (fun h => by simp at h))
            refine W.eq (g2 := F0 m 95 ls [.int (nI 0)]) rfl ?_
            refine lv_goto (tgt := 100) hx hb d_Pg_passInward_95 (by decide) ?_
            exact gc_iret hx hb hr hlk hP hS d_Pg_passInward_100 ⟨rfl, (nI 0), fa1v_32, fl1v_33, n1v_34, (va_up (va_up (va_up (va_up em 0 (so / 256)) 1 (so % 256)) 2 ((pi kv_8) / 256)) 3 ((pi kv_8) % 256)), cs, (by unfold inF; rw [if_neg (by omega), hm_19]; simp only [hq_27, c_35]; rfl), (by omega), c_37, c_38, (by omega), h_65, h_66, h_67, h_64, hf_68, (fun z q0 q1 q2 q3 qr => (gm_up_ne _ _ q2).trans ((hfr_42 z q0 q1 (fun q => qr (by rw [q]; exact hA.1 kv_22 (by omega)))).trans (rfl))), rfl⟩
        · skip
          refine W.eq (g2 := F0 m 60 ls [.int (-1)]) rfl ?_
          have hq_72 := ffP_none (P := fun k => fl k 0 = pr0 ∧ fl k 1 = (pi kv_8) ∧ fl k 2 = so) c_26
          refine lv_istore (lv' := [(4, .int (-1)), (3, .int (nI (pi kv_8))), (0, .ref g), (1, .int (nI pr0)), (2, .int (nI f0))]) hx hb d_Pg_passInward_60 hl (by decide) rfl (fun ls hl => ?_)
          refine lv_iload hx hb d_Pg_passInward_62 (lv_at hl 0 rfl) ?_
          refine lv_iconst (v := (-1)) hx hb d_Pg_passInward_64 (by decide) ?_
          refine lv_icmp_eq (tgt := 101) hx hb d_Pg_passInward_65 (by decide) (fun _ => ?_) (fun q => absurd q (by decide))
          refine lv_aload_n hx hb d_Pg_passInward_101 rfl (lv_at hl 2 rfl) ?_
          refine gm_get (C := R_Pg) (T := F_Pg) (n := 15) hx hb htl i_Pg hown hK hP eg rfl 2 (by decide) (htl _ k_199) (fun _ h => h) rfl d_Pg_passInward_102 ?_
          refine lv_iconst (v := nI 0) hx hb d_Pg_passInward_105 (by decide) ?_
          refine lv_iload_n hx hb d_Pg_passInward_106 rfl (lv_at hl 3 rfl) ?_
          refine lv_aload_n hx hb d_Pg_passInward_107 rfl (lv_at hl 2 rfl) ?_
          refine gm_get (C := R_Pg) (T := F_Pg) (n := 15) hx hb htl i_Pg hown hK hP eg rfl 9 (by decide) (htl _ k_206) (fun _ h => h) rfl d_Pg_passInward_108 ?_
          refine lv_iload_n hx hb d_Pg_passInward_111 rfl (lv_at hl 1 rfl) ?_
          refine gc_V (q := (R_Rb, F_Rb, 2)) (n := 4) [.int (nI 0), .int (nI pr0), .int (nI so), .int (nI (pi kv_8))] [] hx hb hml hown hts hK hN hX hP hS (c_Rb_policy eb ea hr1 hr2 hr3 (by omega) hU (by omega) (by omega) (by omega) (by omega)) rfl eb k_608 k_609 k_610 k_4 k_611 (by decide +kernel) ⟨by decide, by decide⟩ rfl hl.1 rfl (Nat.le_of_ble_eq_true rfl) d_Pg_passInward_112 ⟨by decide, by decide⟩ (fun r N1 M_73 H locs hw hP hS => ?_)
          obtain ⟨rfl, hw⟩ := hw
          obtain ⟨av_74, c_75, c_76, rfl, rfl⟩ := hw
          refine W.eq (g2 := F0 m 115 ls [.int (nI av_74)]) rfl ?_
          have hp_77 := pol_F c_75
          refine lz_eq (tgt := 121) hx hb d_Pg_passInward_115 (by decide) (by omega) (fun c_78 => ?_) (fun c_78 => ?_)
          · skip
            refine lv_aload_n hx hb d_Pg_passInward_121 rfl (lv_at hl 2 rfl) ?_
            refine lv_iload_n hx hb d_Pg_passInward_122 rfl (lv_at hl 3 rfl) ?_
            refine lv_iload_n hx hb d_Pg_passInward_123 rfl (lv_at hl 4 rfl) ?_
            refine lv_iload_n hx hb d_Pg_passInward_124 rfl (lv_at hl 1 rfl) ?_
            refine gc_V (q := (R_Pg, F_Pg, 15)) (n := 3) [.int (nI pr0), .int (nI f0), .int (nI (pi kv_8))] [] hx hb hml hown hts hK hN hX hP hS (c_Pg_openInward eg ef efa eem hf (by omega) hA hF (by omega) (by omega) (by omega) (by omega) (by omega) (by omega)) rfl eg k_665 k_667 ks_Pg_openInward k_1 k_668 (by decide +kernel) ⟨by decide, by decide⟩ rfl hl.1 rfl (Nat.le_of_ble_eq_true rfl) d_Pg_passInward_125 ⟨by decide, by decide⟩ (fun r N1 M_79 H locs hw hP hS => ?_)
            obtain ⟨rfl, hw⟩ := hw
            obtain ⟨r0v_80, fl1v_81, n1v_82, em1v_83, c_84, c_85, c_86, h_87, h_88, hfm_89, hfr_90, rfl⟩ := hw
            have h_91 := (hfr_90 _ (gm_ne eg ef (fun h => by cases h)) (gm_ne eg eem (fun h => by cases h)) (by omega)).trans eg
            have h_92 := (hfr_90 _ (gm_ne eb ef (fun h => by cases h)) (gm_ne eb eem (fun h => by cases h)) (by omega)).trans eb
            have h_93 := (hfr_90 _ (gm_ne ea ef (fun h => by cases h)) (gm_ne ea eem (fun h => by simp at h)) (by omega)).trans ea
            have h_94 := (hfr_90 _ (gm_ne ex0 ef (fun h => by cases h)) (gm_ne ex0 eem (fun h => by cases h)) (by omega)).trans ex0
            have h_95 := (hfr_90 _ (gm_ne ex1 ef (fun h => by cases h)) (by omega) (by omega)).trans ex1
            have h_96 := (hfr_90 _ (gm_ne ex2 ef (fun h => by cases h)) (by omega) (by omega)).trans ex2
            have h_97 := (hfr_90 _ (gm_ne ex3 ef (fun h => by cases h)) (by omega) (by omega)).trans ex3
            have h_98 := (hfr_90 _ (gm_ne efa ef (fun h => by cases h)) (gm_ne efa eem (fun h => by simp at h)) (by omega)).trans efa
            have h_99 := (hfr_90 _ (gm_ne ecu ef (fun h => by cases h)) (gm_ne ecu eem (fun h => by cases h)) (by omega)).trans ecu
            have hfb_100 : ∀ i q, fl1v_81 i q < 1000000 := fun i q => (c_86 i).1 q
            have hf_101 : ∀ fi, fi < nr → M_79 (ra fi) = some (.inr (5, [.int (nI (ru fi 0)), .int (nI (ru fi 1)), .int (nI (ru fi 2)), .ref (ra fi + 1), .ref (ra fi + 2)])) := fun fi hfi => (hfr_90 _ (gm_ne (hr1 fi hfi) ef (fun h => by cases h)) (gm_ne (hr1 fi hfi) eem (fun h => by cases h)) (by have := hR.1 fi (by omega); omega)).trans (hr1 fi hfi)
            have hf_102 : ∀ fi, fi < 17 → M_79 (ra fi + 1) = some (.inl (ca 0, 3, .inl (iN (lw fi)))) := fun fi hfi => (hfr_90 _ (gm_ne (hr2 fi hfi) ef (fun h => by cases h)) (gm_ne (hr2 fi hfi) eem (fun h => by simp at h)) (by have := hR.1 fi (by omega); omega)).trans (hr2 fi hfi)
            have hf_103 : ∀ fi, fi < 17 → M_79 (ra fi + 2) = some (.inl (ca 0, 3, .inl (iN (hw fi)))) := fun fi hfi => (hfr_90 _ (gm_ne (hr3 fi hfi) ef (fun h => by cases h)) (gm_ne (hr3 fi hfi) eem (fun h => by simp at h)) (by have := hR.1 fi (by omega); omega)).trans (hr3 fi hfi)
            refine W.eq (g2 := F0 m 128 ls [.int r0v_80]) rfl ?_
            exact gc_iret hx hb hr hlk hP hS d_Pg_passInward_128 ⟨rfl, r0v_80, fa, fl1v_81, n1v_82, em1v_83, cs, (by unfold inF; rw [if_neg (by omega), hm_19]; simp only [hq_72, hp_77]; rw [if_neg (by omega)]; exact openI_cs cs c_84), (by omega), hA, c_86, (by omega), h_87, h_98, h_88, h_99, hfm_89, (fun z q0 q1 q2 q3 qr => (hfr_90 z q0 q2 qr).trans (rfl)), rfl⟩
          · skip
            refine lv_bipush (v := (-4)) hx hb d_Pg_passInward_118 (by decide) ?_
            exact gc_iret hx hb hr hlk hP hS d_Pg_passInward_120 ⟨rfl, (-4), fa, fl, nf, em, cs, (by unfold inF; rw [if_neg (by omega), hm_19]; simp only [hq_72, hp_77]; rw [if_pos (by omega)]), (by omega), hA, hF, (by omega), ef, efa, eem, ecu, hf, (fun z q0 q1 q2 q3 qr => rfl), rfl⟩
      · skip
        refine W.eq (g2 := F0 m 38 ls [.int (nI (fl kv_12 1))]) rfl ?_
        have hm_104 := mpE_2 (po := po) (pi := pi) c_13 c_14 c_15 c_16
        have b_105 := (hF kv_12).2.2.1
        have b_106 := hF3 kv_12 c_14
        refine lv_istore_n (lv' := [(3, .int (nI (fl kv_12 1))), (0, .ref g), (1, .int (nI pr0)), (2, .int (nI f0))]) hx hb d_Pg_passInward_38 rfl hl (by decide) rfl (fun ls hl => ?_)
        refine lv_iload_n hx hb d_Pg_passInward_39 rfl (lv_at hl 0 rfl) ?_
        refine lv_iconst (v := (-1)) hx hb d_Pg_passInward_40 (by decide) ?_
        refine lv_icmp_ne (tgt := 47) hx hb d_Pg_passInward_41 (by decide) (fun _ => ?_) (fun q => absurd q (nI_nm1 (by omega)))
        refine lv_aload_n hx hb d_Pg_passInward_47 rfl (lv_at hl 1 rfl) ?_
        refine gm_get (C := R_Pg) (T := F_Pg) (n := 15) hx hb htl i_Pg hown hK hP eg rfl 5 (by decide) (htl _ k_202) (fun _ h => h) rfl d_Pg_passInward_48 ?_
        refine lv_iload_n hx hb d_Pg_passInward_51 rfl (lv_at hl 2 rfl) ?_
        refine lv_iload_n hx hb d_Pg_passInward_52 rfl (lv_at hl 0 rfl) ?_
        refine lv_aload_n hx hb d_Pg_passInward_53 rfl (lv_at hl 1 rfl) ?_
        refine gm_get (C := R_Pg) (T := F_Pg) (n := 15) hx hb htl i_Pg hown hK hP eg rfl 9 (by decide) (htl _ k_206) (fun _ h => h) rfl d_Pg_passInward_54 ?_
        refine gc_V (q := (R_Ft, F_Ft, 2)) (n := 3) [.int (nI pr0), .int (nI (fl kv_12 1)), .int (nI so)] [] hx hb hml hown hts hK hN hX hP hS (c_Ft_find ef efa hf (by omega) hA hF (by omega) (by omega) (by omega)) rfl ef k_567 k_568 k_569 k_7 k_570 (by decide +kernel) ⟨by decide, by decide⟩ rfl hl.1 rfl (Nat.le_of_ble_eq_true rfl) d_Pg_passInward_57 ⟨by decide, by decide⟩ (fun r N1 M_107 H locs hw hP hS => ?_)
        obtain ⟨rfl, hw⟩ := hw
        rcases hw with ⟨kv_108, c_109, c_110, c_111, rfl, rfl⟩ | ⟨c_112, rfl, rfl⟩
        · skip
          refine W.eq (g2 := F0 m 60 ls [.int (nI kv_108)]) rfl ?_
          have hq_113 := ffP_some (P := fun k => fl k 0 = pr0 ∧ fl k 1 = (fl kv_12 1) ∧ fl k 2 = so) c_109 c_110 c_111
          have b_114 := hF3 kv_108 c_109
          have b_115 := hfb kv_108 3
          refine lv_istore (lv' := [(4, .int (nI kv_108)), (3, .int (nI (fl kv_12 1))), (0, .ref g), (1, .int (nI pr0)), (2, .int (nI f0))]) hx hb d_Pg_passInward_60 hl (by decide) rfl (fun ls hl => ?_)
          refine lv_iload hx hb d_Pg_passInward_62 (lv_at hl 0 rfl) ?_
          refine lv_iconst (v := (-1)) hx hb d_Pg_passInward_64 (by decide) ?_
          refine lv_icmp_eq (tgt := 101) hx hb d_Pg_passInward_65 (by decide) (fun q => absurd q (nI_nm1 (by omega))) (fun _ => ?_)
          refine lv_aload_n hx hb d_Pg_passInward_68 rfl (lv_at hl 2 rfl) ?_
          refine gm_get (C := R_Pg) (T := F_Pg) (n := 15) hx hb htl i_Pg hown hK hP eg rfl 5 (by decide) (htl _ k_202) (fun _ h => h) rfl d_Pg_passInward_69 ?_
          refine lv_iload hx hb d_Pg_passInward_72 (lv_at hl 0 rfl) ?_
          refine lv_iconst (v := nI 0) hx hb d_Pg_passInward_74 (by decide) ?_
          refine lv_iload_n hx hb d_Pg_passInward_75 rfl (lv_at hl 4 rfl) ?_
          refine lv_aload_n hx hb d_Pg_passInward_76 rfl (lv_at hl 2 rfl) ?_
          refine gm_get (C := R_Pg) (T := F_Pg) (n := 15) hx hb htl i_Pg hown hK hP eg rfl 11 (by decide) (htl _ k_208) (fun _ h => h) rfl d_Pg_passInward_77 ?_
          refine gc_V (q := (R_Ft, F_Ft, 2)) (n := 4) [.int (nI kv_108), .int (nI 0), .int (nI f0), .int (nI tm)] [] hx hb hml hown hts hK hN hX hP hS (c_Ft_follow ef efa hf (by omega) hA hF (by omega) (by omega) (by omega) (by omega)) rfl ef k_575 k_576 k_577 k_7 k_578 (by decide +kernel) ⟨by decide, by decide⟩ rfl hl.1 rfl (Nat.le_of_ble_eq_true rfl) d_Pg_passInward_80 ⟨by decide, by decide⟩ (fun r N1 M_116 H locs hw hP hS => ?_)
          obtain ⟨rfl, hw⟩ := hw
          rcases hw with ⟨c_117, rfl, rfl⟩ | ⟨fa1v_118, fl1v_119, n1v_120, c_121, c_122, c_123, c_124, h_125, h_126, hfm_127, hfr_128, rfl⟩
          · skip
            refine W.eq (g2 := F0 m 83 ls [.int (nI 0)]) rfl ?_
            refine lv_if_eq (tgt := 98) hx hb d_Pg_passInward_83 (by decide) (fun _ => ?_) (fun q => absurd q (by decide))
            refine lv_bipush (v := (-6)) hx hb d_Pg_passInward_98 (by decide) ?_
            exact gc_iret hx hb hr hlk hP hS d_Pg_passInward_100 ⟨rfl, (-6), fa, fl, nf, em, cs, (by unfold inF; rw [if_neg (by omega), hm_104]; simp only [hq_113, c_117]), (by omega), hA, hF, (by omega), ef, efa, eem, ecu, hf, (fun z q0 q1 q2 q3 qr => rfl), rfl⟩
          · skip
            have h_129 := (hfr_128 _ (gm_ne eg ef (fun h => by cases h)) (gm_ne eg efa (fun h => by cases h)) (gm_ne eg (hf kv_108 (by omega)) (fun h => by cases h))).trans eg
            have h_130 := (hfr_128 _ (gm_ne eb ef (fun h => by cases h)) (gm_ne eb efa (fun h => by cases h)) (gm_ne eb (hf kv_108 (by omega)) (fun h => by cases h))).trans eb
            have h_131 := (hfr_128 _ (gm_ne ea ef (fun h => by cases h)) (gm_ne ea efa (fun h => by simp at h)) (gm_ne ea (hf kv_108 (by omega)) (fun h => by cases h))).trans ea
            have h_132 := (hfr_128 _ (gm_ne ex0 ef (fun h => by cases h)) (gm_ne ex0 efa (fun h => by cases h)) (gm_ne ex0 (hf kv_108 (by omega)) (fun h => by cases h))).trans ex0
            have h_133 := (hfr_128 _ (gm_ne ex1 ef (fun h => by cases h)) (gm_ne ex1 efa (fun h => by simp at h)) (gm_ne ex1 (hf kv_108 (by omega)) (fun h => by cases h))).trans ex1
            have h_134 := (hfr_128 _ (gm_ne ex2 ef (fun h => by cases h)) (gm_ne ex2 efa (fun h => by simp at h)) (gm_ne ex2 (hf kv_108 (by omega)) (fun h => by cases h))).trans ex2
            have h_135 := (hfr_128 _ (gm_ne ex3 ef (fun h => by cases h)) (gm_ne ex3 efa (fun h => by simp at h)) (gm_ne ex3 (hf kv_108 (by omega)) (fun h => by cases h))).trans ex3
            have h_136 := (hfr_128 _ (gm_ne eem ef (fun h => by cases h)) (gm_ne eem efa (fun h => by simp at h)) (gm_ne eem (hf kv_108 (by omega)) (fun h => by cases h))).trans eem
            have h_137 := (hfr_128 _ (gm_ne ecu ef (fun h => by cases h)) (gm_ne ecu efa (fun h => by cases h)) (gm_ne ecu (hf kv_108 (by omega)) (fun h => by cases h))).trans ecu
            have hfb_138 : ∀ i q, fl1v_119 i q < 1000000 := fun i q => (c_124 i).1 q
            have hf_139 : ∀ fi, fi < nr → M_116 (ra fi) = some (.inr (5, [.int (nI (ru fi 0)), .int (nI (ru fi 1)), .int (nI (ru fi 2)), .ref (ra fi + 1), .ref (ra fi + 2)])) := fun fi hfi => (hfr_128 _ (gm_ne (hr1 fi hfi) ef (fun h => by cases h)) (gm_ne (hr1 fi hfi) efa (fun h => by cases h)) (gm_ne (hr1 fi hfi) (hf kv_108 (by omega)) (fun h => by cases h))).trans (hr1 fi hfi)
            have hf_140 : ∀ fi, fi < 17 → M_116 (ra fi + 1) = some (.inl (ca 0, 3, .inl (iN (lw fi)))) := fun fi hfi => (hfr_128 _ (gm_ne (hr2 fi hfi) ef (fun h => by cases h)) (gm_ne (hr2 fi hfi) efa (fun h => by simp at h)) (gm_ne (hr2 fi hfi) (hf kv_108 (by omega)) (fun h => by cases h))).trans (hr2 fi hfi)
            have hf_141 : ∀ fi, fi < 17 → M_116 (ra fi + 2) = some (.inl (ca 0, 3, .inl (iN (hw fi)))) := fun fi hfi => (hfr_128 _ (gm_ne (hr3 fi hfi) ef (fun h => by cases h)) (gm_ne (hr3 fi hfi) efa (fun h => by simp at h)) (gm_ne (hr3 fi hfi) (hf kv_108 (by omega)) (fun h => by cases h))).trans (hr3 fi hfi)
            refine W.eq (g2 := F0 m 83 ls [.int (nI 1)]) rfl ?_
            refine lv_if_eq (tgt := 98) hx hb d_Pg_passInward_83 (by decide) (fun q => absurd q (by decide)) (fun _ => ?_)
            refine lv_aload_n hx hb d_Pg_passInward_86 rfl (lv_at hl 2 rfl) ?_
            refine lv_aload_n hx hb d_Pg_passInward_87 rfl (lv_at hl 2 rfl) ?_
            refine gm_get (C := R_Pg) (T := F_Pg) (n := 15) hx hb htl i_Pg hown hK hP h_129 rfl 9 (by decide) (htl _ k_206) (fun _ h => h) rfl d_Pg_passInward_88 ?_
            refine lv_iload_n hx hb d_Pg_passInward_91 rfl (lv_at hl 1 rfl) ?_
            refine gc_V (q := (R_Pg, F_Pg, 15)) (n := 2) [.int (nI so), .int (nI (fl kv_12 1))] [] hx hb hml hown hts hK hN hX hP hS (c_Pg_sendBetween h_129 h_136 (by omega) (by omega)) rfl h_129 k_661 k_663 ks_Pg_sendBetween k_1 k_664 (by decide +kernel) ⟨by decide, by decide⟩ rfl hl.1 rfl (Nat.le_of_ble_eq_true rfl) d_Pg_passInward_92 ⟨by decide, by decide⟩ (fun r N1 M_142 H locs hw hP hS => ?_)
            obtain ⟨rfl, hw⟩ := hw
            obtain ⟨rfl, rfl⟩ := hw
            have hP : gm_P D cls A N (gm_up M_116 (g + 81) (.inl (ca 0, 4, .inl (iN (va_up (va_up (va_up (va_up em 0 (so / 256)) 1 (so % 256)) 2 ((fl kv_12 1) / 256)) 3 ((fl kv_12 1) % 256)))))) H := hP
            have h_143 := gm_pass (k := (g + 81)) (y := .inl (ca 0, 4, .inl (iN (va_up (va_up (va_up (va_up em 0 (so / 256)) 1 (so % 256)) 2 ((fl kv_12 1) / 256)) 3 ((fl kv_12 1) % 256))))) h_129 (gm_ne h_129 h_136 (fun h => by cases h))
            have h_144 := gm_pass (k := (g + 81)) (y := .inl (ca 0, 4, .inl (iN (va_up (va_up (va_up (va_up em 0 (so / 256)) 1 (so % 256)) 2 ((fl kv_12 1) / 256)) 3 ((fl kv_12 1) % 256))))) h_130 (gm_ne h_130 h_136 (fun h => by cases h))
            have h_145 := gm_pass (k := (g + 81)) (y := .inl (ca 0, 4, .inl (iN (va_up (va_up (va_up (va_up em 0 (so / 256)) 1 (so % 256)) 2 ((fl kv_12 1) / 256)) 3 ((fl kv_12 1) % 256))))) h_131 (gm_ne h_131 h_136 (fun h => by simp at h))
            have h_146 := gm_pass (k := (g + 81)) (y := .inl (ca 0, 4, .inl (iN (va_up (va_up (va_up (va_up em 0 (so / 256)) 1 (so % 256)) 2 ((fl kv_12 1) / 256)) 3 ((fl kv_12 1) % 256))))) h_132 (gm_ne h_132 h_136 (fun h => by cases h))
            have h_147 := gm_pass (k := (g + 81)) (y := .inl (ca 0, 4, .inl (iN (va_up (va_up (va_up (va_up em 0 (so / 256)) 1 (so % 256)) 2 ((fl kv_12 1) / 256)) 3 ((fl kv_12 1) % 256))))) h_133 (by omega)
            have h_148 := gm_pass (k := (g + 81)) (y := .inl (ca 0, 4, .inl (iN (va_up (va_up (va_up (va_up em 0 (so / 256)) 1 (so % 256)) 2 ((fl kv_12 1) / 256)) 3 ((fl kv_12 1) % 256))))) h_134 (by omega)
            have h_149 := gm_pass (k := (g + 81)) (y := .inl (ca 0, 4, .inl (iN (va_up (va_up (va_up (va_up em 0 (so / 256)) 1 (so % 256)) 2 ((fl kv_12 1) / 256)) 3 ((fl kv_12 1) % 256))))) h_135 (by omega)
            have h_150 := gm_pass (k := (g + 81)) (y := .inl (ca 0, 4, .inl (iN (va_up (va_up (va_up (va_up em 0 (so / 256)) 1 (so % 256)) 2 ((fl kv_12 1) / 256)) 3 ((fl kv_12 1) % 256))))) h_137 (gm_ne h_137 h_136 (fun h => by cases h))
            have h_151 := gm_pass (k := (g + 81)) (y := .inl (ca 0, 4, .inl (iN (va_up (va_up (va_up (va_up em 0 (so / 256)) 1 (so % 256)) 2 ((fl kv_12 1) / 256)) 3 ((fl kv_12 1) % 256))))) h_125 (gm_ne h_125 h_136 (fun h => by cases h))
            have h_152 := gm_pass (k := (g + 81)) (y := .inl (ca 0, 4, .inl (iN (va_up (va_up (va_up (va_up em 0 (so / 256)) 1 (so % 256)) 2 ((fl kv_12 1) / 256)) 3 ((fl kv_12 1) % 256))))) h_126 (gm_ne h_126 h_136 (fun h => by simp at h))
            have h_153 := gm_up_self M_116 (g + 81) (.inl (ca 0, 4, .inl (iN (va_up (va_up (va_up (va_up em 0 (so / 256)) 1 (so % 256)) 2 ((fl kv_12 1) / 256)) 3 ((fl kv_12 1) % 256)))))
            have hf_154 : ∀ fi, fi < 16 → (gm_up M_116 (g + 81) (.inl (ca 0, 4, .inl (iN (va_up (va_up (va_up (va_up em 0 (so / 256)) 1 (so % 256)) 2 ((fl kv_12 1) / 256)) 3 ((fl kv_12 1) % 256)))))) (fa1v_118 fi) = some (.inr (2, [.int (nI (fl1v_119 fi 0)), .int (nI (fl1v_119 fi 1)), .int (nI (fl1v_119 fi 2)), .int (nI (fl1v_119 fi 3)), .int (nI (fl1v_119 fi 4)), .int (nI (fl1v_119 fi 5)), .int (nI (fl1v_119 fi 6)), .int (nI (fl1v_119 fi 7))])) := fun fi hfi => gm_pass (k := (g + 81)) (y := .inl (ca 0, 4, .inl (iN (va_up (va_up (va_up (va_up em 0 (so / 256)) 1 (so % 256)) 2 ((fl kv_12 1) / 256)) 3 ((fl kv_12 1) % 256))))) (hfm_127 fi hfi) (gm_ne (hfm_127 fi hfi) h_136 (fun h => by cases h))
            have hf_155 : ∀ fi, fi < nr → (gm_up M_116 (g + 81) (.inl (ca 0, 4, .inl (iN (va_up (va_up (va_up (va_up em 0 (so / 256)) 1 (so % 256)) 2 ((fl kv_12 1) / 256)) 3 ((fl kv_12 1) % 256)))))) (ra fi) = some (.inr (5, [.int (nI (ru fi 0)), .int (nI (ru fi 1)), .int (nI (ru fi 2)), .ref (ra fi + 1), .ref (ra fi + 2)])) := fun fi hfi => gm_pass (k := (g + 81)) (y := .inl (ca 0, 4, .inl (iN (va_up (va_up (va_up (va_up em 0 (so / 256)) 1 (so % 256)) 2 ((fl kv_12 1) / 256)) 3 ((fl kv_12 1) % 256))))) (hf_139 fi hfi) (gm_ne (hf_139 fi hfi) h_136 (fun h => by cases h))
            have hf_156 : ∀ fi, fi < 17 → (gm_up M_116 (g + 81) (.inl (ca 0, 4, .inl (iN (va_up (va_up (va_up (va_up em 0 (so / 256)) 1 (so % 256)) 2 ((fl kv_12 1) / 256)) 3 ((fl kv_12 1) % 256)))))) (ra fi + 1) = some (.inl (ca 0, 3, .inl (iN (lw fi)))) := fun fi hfi => gm_pass (k := (g + 81)) (y := .inl (ca 0, 4, .inl (iN (va_up (va_up (va_up (va_up em 0 (so / 256)) 1 (so % 256)) 2 ((fl kv_12 1) / 256)) 3 ((fl kv_12 1) % 256))))) (hf_140 fi hfi) (gm_ne (hf_140 fi hfi) h_136 (fun h => by simp at h))
            have hf_157 : ∀ fi, fi < 17 → (gm_up M_116 (g + 81) (.inl (ca 0, 4, .inl (iN (va_up (va_up (va_up (va_up em 0 (so / 256)) 1 (so % 256)) 2 ((fl kv_12 1) / 256)) 3 ((fl kv_12 1) % 256)))))) (ra fi + 2) = some (.inl (ca 0, 3, .inl (iN (hw fi)))) := fun fi hfi => gm_pass (k := (g + 81)) (y := .inl (ca 0, 4, .inl (iN (va_up (va_up (va_up (va_up em 0 (so / 256)) 1 (so % 256)) 2 ((fl kv_12 1) / 256)) 3 ((fl kv_12 1) % 256))))) (hf_141 fi hfi) (gm_ne (hf_141 fi hfi) h_136 (fun h => by simp at h))
            refine W.eq (g2 := F0 m 95 ls [.int (nI 0)]) rfl ?_
            refine lv_goto (tgt := 100) hx hb d_Pg_passInward_95 (by decide) ?_
            exact gc_iret hx hb hr hlk hP hS d_Pg_passInward_100 ⟨rfl, (nI 0), fa1v_118, fl1v_119, n1v_120, (va_up (va_up (va_up (va_up em 0 (so / 256)) 1 (so % 256)) 2 ((fl kv_12 1) / 256)) 3 ((fl kv_12 1) % 256)), cs, (by unfold inF; rw [if_neg (by omega), hm_104]; simp only [hq_113, c_121]; rfl), (by omega), c_123, c_124, (by omega), h_151, h_152, h_153, h_150, hf_154, (fun z q0 q1 q2 q3 qr => (gm_up_ne _ _ q2).trans ((hfr_128 z q0 q1 (fun q => qr (by rw [q]; exact hA.1 kv_108 (by omega)))).trans (rfl))), rfl⟩
        · skip
          refine W.eq (g2 := F0 m 60 ls [.int (-1)]) rfl ?_
          have hq_158 := ffP_none (P := fun k => fl k 0 = pr0 ∧ fl k 1 = (fl kv_12 1) ∧ fl k 2 = so) c_112
          refine lv_istore (lv' := [(4, .int (-1)), (3, .int (nI (fl kv_12 1))), (0, .ref g), (1, .int (nI pr0)), (2, .int (nI f0))]) hx hb d_Pg_passInward_60 hl (by decide) rfl (fun ls hl => ?_)
          refine lv_iload hx hb d_Pg_passInward_62 (lv_at hl 0 rfl) ?_
          refine lv_iconst (v := (-1)) hx hb d_Pg_passInward_64 (by decide) ?_
          refine lv_icmp_eq (tgt := 101) hx hb d_Pg_passInward_65 (by decide) (fun _ => ?_) (fun q => absurd q (by decide))
          refine lv_aload_n hx hb d_Pg_passInward_101 rfl (lv_at hl 2 rfl) ?_
          refine gm_get (C := R_Pg) (T := F_Pg) (n := 15) hx hb htl i_Pg hown hK hP eg rfl 2 (by decide) (htl _ k_199) (fun _ h => h) rfl d_Pg_passInward_102 ?_
          refine lv_iconst (v := nI 0) hx hb d_Pg_passInward_105 (by decide) ?_
          refine lv_iload_n hx hb d_Pg_passInward_106 rfl (lv_at hl 3 rfl) ?_
          refine lv_aload_n hx hb d_Pg_passInward_107 rfl (lv_at hl 2 rfl) ?_
          refine gm_get (C := R_Pg) (T := F_Pg) (n := 15) hx hb htl i_Pg hown hK hP eg rfl 9 (by decide) (htl _ k_206) (fun _ h => h) rfl d_Pg_passInward_108 ?_
          refine lv_iload_n hx hb d_Pg_passInward_111 rfl (lv_at hl 1 rfl) ?_
          refine gc_V (q := (R_Rb, F_Rb, 2)) (n := 4) [.int (nI 0), .int (nI pr0), .int (nI so), .int (nI (fl kv_12 1))] [] hx hb hml hown hts hK hN hX hP hS (c_Rb_policy eb ea hr1 hr2 hr3 (by omega) hU (by omega) (by omega) (by omega) (by omega)) rfl eb k_608 k_609 k_610 k_4 k_611 (by decide +kernel) ⟨by decide, by decide⟩ rfl hl.1 rfl (Nat.le_of_ble_eq_true rfl) d_Pg_passInward_112 ⟨by decide, by decide⟩ (fun r N1 M_159 H locs hw hP hS => ?_)
          obtain ⟨rfl, hw⟩ := hw
          obtain ⟨av_160, c_161, c_162, rfl, rfl⟩ := hw
          refine W.eq (g2 := F0 m 115 ls [.int (nI av_160)]) rfl ?_
          have hp_163 := pol_F c_161
          refine lz_eq (tgt := 121) hx hb d_Pg_passInward_115 (by decide) (by omega) (fun c_164 => ?_) (fun c_164 => ?_)
          · skip
            refine lv_aload_n hx hb d_Pg_passInward_121 rfl (lv_at hl 2 rfl) ?_
            refine lv_iload_n hx hb d_Pg_passInward_122 rfl (lv_at hl 3 rfl) ?_
            refine lv_iload_n hx hb d_Pg_passInward_123 rfl (lv_at hl 4 rfl) ?_
            refine lv_iload_n hx hb d_Pg_passInward_124 rfl (lv_at hl 1 rfl) ?_
            refine gc_V (q := (R_Pg, F_Pg, 15)) (n := 3) [.int (nI pr0), .int (nI f0), .int (nI (fl kv_12 1))] [] hx hb hml hown hts hK hN hX hP hS (c_Pg_openInward eg ef efa eem hf (by omega) hA hF (by omega) (by omega) (by omega) (by omega) (by omega) (by omega)) rfl eg k_665 k_667 ks_Pg_openInward k_1 k_668 (by decide +kernel) ⟨by decide, by decide⟩ rfl hl.1 rfl (Nat.le_of_ble_eq_true rfl) d_Pg_passInward_125 ⟨by decide, by decide⟩ (fun r N1 M_165 H locs hw hP hS => ?_)
            obtain ⟨rfl, hw⟩ := hw
            obtain ⟨r0v_166, fl1v_167, n1v_168, em1v_169, c_170, c_171, c_172, h_173, h_174, hfm_175, hfr_176, rfl⟩ := hw
            have h_177 := (hfr_176 _ (gm_ne eg ef (fun h => by cases h)) (gm_ne eg eem (fun h => by cases h)) (by omega)).trans eg
            have h_178 := (hfr_176 _ (gm_ne eb ef (fun h => by cases h)) (gm_ne eb eem (fun h => by cases h)) (by omega)).trans eb
            have h_179 := (hfr_176 _ (gm_ne ea ef (fun h => by cases h)) (gm_ne ea eem (fun h => by simp at h)) (by omega)).trans ea
            have h_180 := (hfr_176 _ (gm_ne ex0 ef (fun h => by cases h)) (gm_ne ex0 eem (fun h => by cases h)) (by omega)).trans ex0
            have h_181 := (hfr_176 _ (gm_ne ex1 ef (fun h => by cases h)) (by omega) (by omega)).trans ex1
            have h_182 := (hfr_176 _ (gm_ne ex2 ef (fun h => by cases h)) (by omega) (by omega)).trans ex2
            have h_183 := (hfr_176 _ (gm_ne ex3 ef (fun h => by cases h)) (by omega) (by omega)).trans ex3
            have h_184 := (hfr_176 _ (gm_ne efa ef (fun h => by cases h)) (gm_ne efa eem (fun h => by simp at h)) (by omega)).trans efa
            have h_185 := (hfr_176 _ (gm_ne ecu ef (fun h => by cases h)) (gm_ne ecu eem (fun h => by cases h)) (by omega)).trans ecu
            have hfb_186 : ∀ i q, fl1v_167 i q < 1000000 := fun i q => (c_172 i).1 q
            have hf_187 : ∀ fi, fi < nr → M_165 (ra fi) = some (.inr (5, [.int (nI (ru fi 0)), .int (nI (ru fi 1)), .int (nI (ru fi 2)), .ref (ra fi + 1), .ref (ra fi + 2)])) := fun fi hfi => (hfr_176 _ (gm_ne (hr1 fi hfi) ef (fun h => by cases h)) (gm_ne (hr1 fi hfi) eem (fun h => by cases h)) (by have := hR.1 fi (by omega); omega)).trans (hr1 fi hfi)
            have hf_188 : ∀ fi, fi < 17 → M_165 (ra fi + 1) = some (.inl (ca 0, 3, .inl (iN (lw fi)))) := fun fi hfi => (hfr_176 _ (gm_ne (hr2 fi hfi) ef (fun h => by cases h)) (gm_ne (hr2 fi hfi) eem (fun h => by simp at h)) (by have := hR.1 fi (by omega); omega)).trans (hr2 fi hfi)
            have hf_189 : ∀ fi, fi < 17 → M_165 (ra fi + 2) = some (.inl (ca 0, 3, .inl (iN (hw fi)))) := fun fi hfi => (hfr_176 _ (gm_ne (hr3 fi hfi) ef (fun h => by cases h)) (gm_ne (hr3 fi hfi) eem (fun h => by simp at h)) (by have := hR.1 fi (by omega); omega)).trans (hr3 fi hfi)
            refine W.eq (g2 := F0 m 128 ls [.int r0v_166]) rfl ?_
            exact gc_iret hx hb hr hlk hP hS d_Pg_passInward_128 ⟨rfl, r0v_166, fa, fl1v_167, n1v_168, em1v_169, cs, (by unfold inF; rw [if_neg (by omega), hm_104]; simp only [hq_158, hp_163]; rw [if_neg (by omega)]; exact openI_cs cs c_170), (by omega), hA, c_172, (by omega), h_173, h_184, h_174, h_185, hfm_175, (fun z q0 q1 q2 q3 qr => (hfr_176 z q0 q2 qr).trans (rfl)), rfl⟩
          · skip
            refine lv_bipush (v := (-4)) hx hb d_Pg_passInward_118 (by decide) ?_
            exact gc_iret hx hb hr hlk hP hS d_Pg_passInward_120 ⟨rfl, (-4), fa, fl, nf, em, cs, (by unfold inF; rw [if_neg (by omega), hm_104]; simp only [hq_158, hp_163]; rw [if_pos (by omega)]), (by omega), hA, hF, (by omega), ef, efa, eem, ecu, hf, (fun z q0 q1 q2 q3 qr => rfl), rfl⟩
      · skip
        refine W.eq (g2 := F0 m 38 ls [.int (-1)]) rfl ?_
        have hm_190 := mpE_3 (po := po) (pi := pi) c_17 c_18
        refine lv_istore_n (lv' := [(3, .int (-1)), (0, .ref g), (1, .int (nI pr0)), (2, .int (nI f0))]) hx hb d_Pg_passInward_38 rfl hl (by decide) rfl (fun ls hl => ?_)
        refine lv_iload_n hx hb d_Pg_passInward_39 rfl (lv_at hl 0 rfl) ?_
        refine lv_iconst (v := (-1)) hx hb d_Pg_passInward_40 (by decide) ?_
        refine lv_icmp_ne (tgt := 47) hx hb d_Pg_passInward_41 (by decide) (fun q => absurd q (by decide)) (fun _ => ?_)
        refine lv_bipush (v := (-4)) hx hb d_Pg_passInward_44 (by decide) ?_
        exact gc_iret hx hb hr hlk hP hS d_Pg_passInward_46 ⟨rfl, (-4), fa, fl, nf, em, cs, (by unfold inF; rw [if_neg (by omega), hm_190]), (by omega), hA, hF, (by omega), ef, efa, eem, ecu, hf, (fun z q0 q1 q2 q3 qr => rfl), rfl⟩
    · skip
      refine lv_bipush (v := (-5)) hx hb d_Pg_passInward_23 (by decide) ?_
      exact gc_iret hx hb hr hlk hP hS d_Pg_passInward_25 ⟨rfl, (-5), fa, fl, nf, em, cs, (by unfold inF; rw [if_pos (by omega)]), (by omega), hA, hF, (by omega), ef, efa, eem, ecu, hf, (fun z q0 q1 q2 q3 qr => rfl), rfl⟩
  · skip
    refine W.eq (g2 := F0 m 7 ls [.int (nI 0)]) rfl ?_
    refine lv_if_eq (tgt := 23) hx hb d_Pg_passInward_7 (by decide) (fun _ => ?_) (fun q => absurd q (by decide))
    refine lv_bipush (v := (-5)) hx hb d_Pg_passInward_23 (by decide) ?_
    exact gc_iret hx hb hr hlk hP hS d_Pg_passInward_25 ⟨rfl, (-5), fa, fl, nf, em, cs, (by unfold inF; rw [if_pos (by omega)]), (by omega), hA, hF, (by omega), ef, efa, eem, ecu, hf, (fun z q0 q1 q2 q3 qr => rfl), rfl⟩
set_option maxHeartbeats 4000000 in
set_option maxRecDepth 100000 in
theorem c_Pg_passReport {g cu be so ta tm lt nt : Nat} {bp : Int32} {ne : Nat} {pp : Nat → Nat} {po : Nat → Nat} {pi : Nat → Nat} {nf : Nat} {fa : Nat → Nat} {em : Nat → Nat} {fl : Nat → Nat → Nat} {pr0 : Nat} (eg : M g = some (.inr (8, [.ref (g + 1), .ref (g + 3), .ref (g + 4), .ref (g + 57), .ref (g + 59), .ref (g + 63), .ref (g + 81), .ref cu, .ref be, .int (nI so), .int (nI ta), .int (nI tm), .int (nI lt), .int (nI nt), .int bp]))) (ex0 : M (g + 59) = some (.inr (1, [.ref (g + 60), .ref (g + 61), .ref (g + 62), .int (nI ne)]))) (ex1 : M (g + 60) = some (.inl (ca 0, 4, .inl (iN pp)))) (ex2 : M (g + 61) = some (.inl (ca 0, 4, .inl (iN po)))) (ex3 : M (g + 62) = some (.inl (ca 0, 4, .inl (iN pi)))) (ef : M (g + 63) = some (.inr (3, [.ref (g + 64), .int (nI nf)]))) (efa : M (g + 64) = some (.inl (ca 3, 16, .inr (.inr (.inr (.inr (oF fa))))))) (eem : M (g + 81) = some (.inl (ca 0, 4, .inl (iN em)))) (hne : ne ≤ 4) (hpp : ∀ k, pp k < 65536) (hpo : ∀ k, po k < 65536) (hpi : ∀ k, pi k < 65536) (hf : ∀ fi, fi < 16 → M (fa fi) = some (.inr (2, [.int (nI (fl fi 0)), .int (nI (fl fi 1)), .int (nI (fl fi 2)), .int (nI (fl fi 3)), .int (nI (fl fi 4)), .int (nI (fl fi 5)), .int (nI (fl fi 6)), .int (nI (fl fi 7))]))) (hnf : nf ≤ 16) (hA : okA (g + 65) fa) (hF : okF fl) (hso : so < 65536) (hta : ta < 65536) (hpr0 : pr0 ≤ 2) (hF3 : ∀ k, k < nf → fl k 3 < 65536) : gC l D ca A G y_Pg_passReport (.code y_Pg_passReport b_Pg_passReport 3 (some .int)) ({ frames := 3, cells := 0, slots := 0, locals := 69 }) N M [.ref g, .int (nI pr0)] gm_i (fun (r : Int32) (N1 : Nat) (M1 : gm_M) => N = N1 ∧ ∃ (r0 : Int32) (em1 : Nat → Nat), (repF ne pp po pi nf fl em so ta pr0 = (r0, em1)) ∧ M1 (g + 81) = some (.inl (ca 0, 4, .inl (iN em1))) ∧ (∀ z, z ≠ (g + 81) → M1 z = M z) ∧ r0 = r) := by
  refine gm_body (by decide) (Nat.le_of_ble_eq_true rfl) (fun p e s m below meth c ls hx hb hr hts hown hlk hml hnm hP hK hN hX hS hl => ?_)
  have htl : ∀ w ∈ LW, w.before _ s = true := fun w h => hts w (List.mem_cons_of_mem _ h)
  have hown : s.vm.findClass "PacketGate" = some m.cls := hown
  have hl : lv_has ls 3 [(0, .ref g), (1, .int (nI pr0))] := hl
  have hfb : ∀ i q, fl i q < 1000000 := fun i q => (hF i).1 q
  refine lv_aload_n hx hb d_Pg_passReport_0 rfl (lv_at hl 0 rfl) ?_
  refine gm_get (C := R_Pg) (T := F_Pg) (n := 15) hx hb htl i_Pg hown hK hP eg rfl 9 (by decide) (htl _ k_206) (fun _ h => h) rfl d_Pg_passReport_1 ?_
  refine gc_S (n := 1) [.int (nI so)] [] hx hb hml hown hts hK hN hX hP hS (c_Pg_addressOf so (by omega)) k_561 k_562 k_1 k_563 (by decide +kernel) ⟨by decide, by decide⟩ rfl hl.1 rfl (Nat.le_of_ble_eq_true rfl) d_Pg_passReport_4 ⟨by decide, by decide⟩ (fun r N1 M_1 H locs hw hP hS => ?_)
  obtain ⟨rfl, hw⟩ := hw
  obtain ⟨rfl, rfl⟩ := hw
  refine W.eq (g2 := F0 m 7 ls [.int (nI (so / 256))]) rfl ?_
  refine lv_sipush (v := nI 200) hx hb d_Pg_passReport_7 (by decide) ?_
  refine ln_eq (tgt := 16) hx hb d_Pg_passReport_10 (by decide) (by omega) (by omega) (fun c_2 => ?_) (fun c_2 => ?_)
  · skip
    refine lv_aload_n hx hb d_Pg_passReport_16 rfl (lv_at hl 0 rfl) ?_
    refine lv_iload_n hx hb d_Pg_passReport_17 rfl (lv_at hl 1 rfl) ?_
    refine lv_aload_n hx hb d_Pg_passReport_18 rfl (lv_at hl 0 rfl) ?_
    refine gm_get (C := R_Pg) (T := F_Pg) (n := 15) hx hb htl i_Pg hown hK hP eg rfl 9 (by decide) (htl _ k_206) (fun _ h => h) rfl d_Pg_passReport_19 ?_
    refine gc_S (n := 1) [.int (nI so)] [.int (nI pr0), .ref g] hx hb hml hown hts hK hN hX hP hS (c_Pg_portOf so (by omega)) k_601 k_602 k_1 k_603 (by decide +kernel) ⟨by decide, by decide⟩ rfl hl.1 rfl (Nat.le_of_ble_eq_true rfl) d_Pg_passReport_22 ⟨by decide, by decide⟩ (fun r N1 M_3 H locs hw hP hS => ?_)
    obtain ⟨rfl, hw⟩ := hw
    obtain ⟨rfl, rfl⟩ := hw
    refine W.eq (g2 := F0 m 25 ls [.int (nI (so % 256)), .int (nI pr0), .ref g]) rfl ?_
    refine gc_V (q := (R_Pg, F_Pg, 15)) (n := 2) [.int (nI pr0), .int (nI (so % 256))] [] hx hb hml hown hts hK hN hX hP hS (c_Pg_mappedEndpoint eg ex0 ex1 ex2 ex3 ef efa (by omega) hpp hpo hpi hf (by omega) hA hF (by omega) (by omega)) rfl eg k_489 k_491 ks_Pg_mappedEndpoint k_1 k_492 (by decide +kernel) ⟨by decide, by decide⟩ rfl hl.1 rfl (Nat.le_of_ble_eq_true rfl) d_Pg_passReport_25 ⟨by decide, by decide⟩ (fun r N1 M_4 H locs hw hP hS => ?_)
    obtain ⟨rfl, hw⟩ := hw
    rcases hw with ⟨kv_5, c_6, c_7, c_8, rfl, rfl⟩ | ⟨kv_9, c_10, c_11, c_12, c_13, rfl, rfl⟩ | ⟨c_14, c_15, rfl, rfl⟩
    · skip
      refine W.eq (g2 := F0 m 28 ls [.int (nI (pi kv_5))]) rfl ?_
      have hm_16 := mpE_1 (po := po) (pi := pi) (nf := nf) (fl := fl) c_6 c_7 c_8
      have b_17 := hpi kv_5
      refine lv_istore_n (lv' := [(2, .int (nI (pi kv_5))), (0, .ref g), (1, .int (nI pr0))]) hx hb d_Pg_passReport_28 rfl hl (by decide) rfl (fun ls hl => ?_)
      refine lv_iload_n hx hb d_Pg_passReport_29 rfl (lv_at hl 0 rfl) ?_
      refine lv_iconst (v := (-1)) hx hb d_Pg_passReport_30 (by decide) ?_
      refine lv_icmp_eq (tgt := 51) hx hb d_Pg_passReport_31 (by decide) (fun q => absurd q (nI_nm1 (by omega))) (fun _ => ?_)
      refine lv_aload_n hx hb d_Pg_passReport_34 rfl (lv_at hl 1 rfl) ?_
      refine gm_get (C := R_Pg) (T := F_Pg) (n := 15) hx hb htl i_Pg hown hK hP eg rfl 5 (by decide) (htl _ k_202) (fun _ h => h) rfl d_Pg_passReport_35 ?_
      refine lv_iload_n hx hb d_Pg_passReport_38 rfl (lv_at hl 2 rfl) ?_
      refine lv_iload_n hx hb d_Pg_passReport_39 rfl (lv_at hl 0 rfl) ?_
      refine lv_aload_n hx hb d_Pg_passReport_40 rfl (lv_at hl 1 rfl) ?_
      refine gm_get (C := R_Pg) (T := F_Pg) (n := 15) hx hb htl i_Pg hown hK hP eg rfl 10 (by decide) (htl _ k_207) (fun _ h => h) rfl d_Pg_passReport_41 ?_
      refine gc_V (q := (R_Ft, F_Ft, 2)) (n := 3) [.int (nI pr0), .int (nI (pi kv_5)), .int (nI ta)] [] hx hb hml hown hts hK hN hX hP hS (c_Ft_find ef efa hf (by omega) hA hF (by omega) (by omega) (by omega)) rfl ef k_567 k_568 k_569 k_7 k_570 (by decide +kernel) ⟨by decide, by decide⟩ rfl hl.1 rfl (Nat.le_of_ble_eq_true rfl) d_Pg_passReport_44 ⟨by decide, by decide⟩ (fun r N1 M_18 H locs hw hP hS => ?_)
      obtain ⟨rfl, hw⟩ := hw
      rcases hw with ⟨kv_19, c_20, c_21, c_22, rfl, rfl⟩ | ⟨c_23, rfl, rfl⟩
      · skip
        refine W.eq (g2 := F0 m 47 ls [.int (nI kv_19)]) rfl ?_
        have hq_24 := ffP_some (P := fun k => fl k 0 = pr0 ∧ fl k 1 = (pi kv_5) ∧ fl k 2 = ta) c_20 c_21 c_22
        have b_25 := hF3 kv_19 c_20
        have b_26 := hfb kv_19 3
        refine lv_iconst (v := (-1)) hx hb d_Pg_passReport_47 (by decide) ?_
        refine lv_icmp_ne (tgt := 54) hx hb d_Pg_passReport_48 (by decide) (fun _ => ?_) (fun q => absurd q (nI_nm1 (by omega)))
        refine lv_aload_n hx hb d_Pg_passReport_54 rfl (lv_at hl 1 rfl) ?_
        refine lv_iload_n hx hb d_Pg_passReport_55 rfl (lv_at hl 0 rfl) ?_
        refine lv_aload_n hx hb d_Pg_passReport_56 rfl (lv_at hl 1 rfl) ?_
        refine gm_get (C := R_Pg) (T := F_Pg) (n := 15) hx hb htl i_Pg hown hK hP eg rfl 10 (by decide) (htl _ k_207) (fun _ h => h) rfl d_Pg_passReport_57 ?_
        refine gc_V (q := (R_Pg, F_Pg, 15)) (n := 2) [.int (nI (pi kv_5)), .int (nI ta)] [] hx hb hml hown hts hK hN hX hP hS (c_Pg_sendBetween eg eem (by omega) (by omega)) rfl eg k_661 k_663 ks_Pg_sendBetween k_1 k_664 (by decide +kernel) ⟨by decide, by decide⟩ rfl hl.1 rfl (Nat.le_of_ble_eq_true rfl) d_Pg_passReport_60 ⟨by decide, by decide⟩ (fun r N1 M_27 H locs hw hP hS => ?_)
        obtain ⟨rfl, hw⟩ := hw
        obtain ⟨rfl, rfl⟩ := hw
        have hP : gm_P D cls A N (gm_up M (g + 81) (.inl (ca 0, 4, .inl (iN (va_up (va_up (va_up (va_up em 0 ((pi kv_5) / 256)) 1 ((pi kv_5) % 256)) 2 (ta / 256)) 3 (ta % 256)))))) H := hP
        have h_28 := gm_pass (k := (g + 81)) (y := .inl (ca 0, 4, .inl (iN (va_up (va_up (va_up (va_up em 0 ((pi kv_5) / 256)) 1 ((pi kv_5) % 256)) 2 (ta / 256)) 3 (ta % 256))))) eg (gm_ne eg eem (fun h => by cases h))
        have h_29 := gm_pass (k := (g + 81)) (y := .inl (ca 0, 4, .inl (iN (va_up (va_up (va_up (va_up em 0 ((pi kv_5) / 256)) 1 ((pi kv_5) % 256)) 2 (ta / 256)) 3 (ta % 256))))) ex0 (gm_ne ex0 eem (fun h => by cases h))
        have h_30 := gm_pass (k := (g + 81)) (y := .inl (ca 0, 4, .inl (iN (va_up (va_up (va_up (va_up em 0 ((pi kv_5) / 256)) 1 ((pi kv_5) % 256)) 2 (ta / 256)) 3 (ta % 256))))) ex1 (by omega)
        have h_31 := gm_pass (k := (g + 81)) (y := .inl (ca 0, 4, .inl (iN (va_up (va_up (va_up (va_up em 0 ((pi kv_5) / 256)) 1 ((pi kv_5) % 256)) 2 (ta / 256)) 3 (ta % 256))))) ex2 (by omega)
        have h_32 := gm_pass (k := (g + 81)) (y := .inl (ca 0, 4, .inl (iN (va_up (va_up (va_up (va_up em 0 ((pi kv_5) / 256)) 1 ((pi kv_5) % 256)) 2 (ta / 256)) 3 (ta % 256))))) ex3 (by omega)
        have h_33 := gm_pass (k := (g + 81)) (y := .inl (ca 0, 4, .inl (iN (va_up (va_up (va_up (va_up em 0 ((pi kv_5) / 256)) 1 ((pi kv_5) % 256)) 2 (ta / 256)) 3 (ta % 256))))) ef (gm_ne ef eem (fun h => by cases h))
        have h_34 := gm_pass (k := (g + 81)) (y := .inl (ca 0, 4, .inl (iN (va_up (va_up (va_up (va_up em 0 ((pi kv_5) / 256)) 1 ((pi kv_5) % 256)) 2 (ta / 256)) 3 (ta % 256))))) efa (gm_ne efa eem (fun h => by simp at h))
        have h_35 := gm_up_self M (g + 81) (.inl (ca 0, 4, .inl (iN (va_up (va_up (va_up (va_up em 0 ((pi kv_5) / 256)) 1 ((pi kv_5) % 256)) 2 (ta / 256)) 3 (ta % 256)))))
        have hf_36 : ∀ fi, fi < 16 → (gm_up M (g + 81) (.inl (ca 0, 4, .inl (iN (va_up (va_up (va_up (va_up em 0 ((pi kv_5) / 256)) 1 ((pi kv_5) % 256)) 2 (ta / 256)) 3 (ta % 256)))))) (fa fi) = some (.inr (2, [.int (nI (fl fi 0)), .int (nI (fl fi 1)), .int (nI (fl fi 2)), .int (nI (fl fi 3)), .int (nI (fl fi 4)), .int (nI (fl fi 5)), .int (nI (fl fi 6)), .int (nI (fl fi 7))])) := fun fi hfi => gm_pass (k := (g + 81)) (y := .inl (ca 0, 4, .inl (iN (va_up (va_up (va_up (va_up em 0 ((pi kv_5) / 256)) 1 ((pi kv_5) % 256)) 2 (ta / 256)) 3 (ta % 256))))) (hf fi hfi) (gm_ne (hf fi hfi) eem (fun h => by cases h))
        refine W.eq (g2 := F0 m 63 ls [.int (nI 0)]) rfl ?_
        exact gc_iret hx hb hr hlk hP hS d_Pg_passReport_63 ⟨rfl, nI 0, (va_up (va_up (va_up (va_up em 0 ((pi kv_5) / 256)) 1 ((pi kv_5) % 256)) 2 (ta / 256)) 3 (ta % 256)), (by unfold repF; rw [if_neg (by omega), hm_16]; simp only [hq_24]; rfl), h_35, (fun z q0 => (gm_up_ne _ _ q0).trans (rfl)), rfl⟩
      · skip
        refine W.eq (g2 := F0 m 47 ls [.int (-1)]) rfl ?_
        have hq_37 := ffP_none (P := fun k => fl k 0 = pr0 ∧ fl k 1 = (pi kv_5) ∧ fl k 2 = ta) c_23
        refine lv_iconst (v := (-1)) hx hb d_Pg_passReport_47 (by decide) ?_
        refine lv_icmp_ne (tgt := 54) hx hb d_Pg_passReport_48 (by decide) (fun q => absurd q (by decide)) (fun _ => ?_)
        refine lv_bipush (v := (-4)) hx hb d_Pg_passReport_51 (by decide) ?_
        exact gc_iret hx hb hr hlk hP hS d_Pg_passReport_53 ⟨rfl, (-4), em, (by unfold repF; rw [if_neg (by omega), hm_16]; simp only [hq_37]), eem, (fun z q0 => rfl), rfl⟩
    · skip
      refine W.eq (g2 := F0 m 28 ls [.int (nI (fl kv_9 1))]) rfl ?_
      have hm_38 := mpE_2 (po := po) (pi := pi) c_10 c_11 c_12 c_13
      have b_39 := (hF kv_9).2.2.1
      have b_40 := hF3 kv_9 c_11
      refine lv_istore_n (lv' := [(2, .int (nI (fl kv_9 1))), (0, .ref g), (1, .int (nI pr0))]) hx hb d_Pg_passReport_28 rfl hl (by decide) rfl (fun ls hl => ?_)
      refine lv_iload_n hx hb d_Pg_passReport_29 rfl (lv_at hl 0 rfl) ?_
      refine lv_iconst (v := (-1)) hx hb d_Pg_passReport_30 (by decide) ?_
      refine lv_icmp_eq (tgt := 51) hx hb d_Pg_passReport_31 (by decide) (fun q => absurd q (nI_nm1 (by omega))) (fun _ => ?_)
      refine lv_aload_n hx hb d_Pg_passReport_34 rfl (lv_at hl 1 rfl) ?_
      refine gm_get (C := R_Pg) (T := F_Pg) (n := 15) hx hb htl i_Pg hown hK hP eg rfl 5 (by decide) (htl _ k_202) (fun _ h => h) rfl d_Pg_passReport_35 ?_
      refine lv_iload_n hx hb d_Pg_passReport_38 rfl (lv_at hl 2 rfl) ?_
      refine lv_iload_n hx hb d_Pg_passReport_39 rfl (lv_at hl 0 rfl) ?_
      refine lv_aload_n hx hb d_Pg_passReport_40 rfl (lv_at hl 1 rfl) ?_
      refine gm_get (C := R_Pg) (T := F_Pg) (n := 15) hx hb htl i_Pg hown hK hP eg rfl 10 (by decide) (htl _ k_207) (fun _ h => h) rfl d_Pg_passReport_41 ?_
      refine gc_V (q := (R_Ft, F_Ft, 2)) (n := 3) [.int (nI pr0), .int (nI (fl kv_9 1)), .int (nI ta)] [] hx hb hml hown hts hK hN hX hP hS (c_Ft_find ef efa hf (by omega) hA hF (by omega) (by omega) (by omega)) rfl ef k_567 k_568 k_569 k_7 k_570 (by decide +kernel) ⟨by decide, by decide⟩ rfl hl.1 rfl (Nat.le_of_ble_eq_true rfl) d_Pg_passReport_44 ⟨by decide, by decide⟩ (fun r N1 M_41 H locs hw hP hS => ?_)
      obtain ⟨rfl, hw⟩ := hw
      rcases hw with ⟨kv_42, c_43, c_44, c_45, rfl, rfl⟩ | ⟨c_46, rfl, rfl⟩
      · skip
        refine W.eq (g2 := F0 m 47 ls [.int (nI kv_42)]) rfl ?_
        have hq_47 := ffP_some (P := fun k => fl k 0 = pr0 ∧ fl k 1 = (fl kv_9 1) ∧ fl k 2 = ta) c_43 c_44 c_45
        have b_48 := hF3 kv_42 c_43
        have b_49 := hfb kv_42 3
        refine lv_iconst (v := (-1)) hx hb d_Pg_passReport_47 (by decide) ?_
        refine lv_icmp_ne (tgt := 54) hx hb d_Pg_passReport_48 (by decide) (fun _ => ?_) (fun q => absurd q (nI_nm1 (by omega)))
        refine lv_aload_n hx hb d_Pg_passReport_54 rfl (lv_at hl 1 rfl) ?_
        refine lv_iload_n hx hb d_Pg_passReport_55 rfl (lv_at hl 0 rfl) ?_
        refine lv_aload_n hx hb d_Pg_passReport_56 rfl (lv_at hl 1 rfl) ?_
        refine gm_get (C := R_Pg) (T := F_Pg) (n := 15) hx hb htl i_Pg hown hK hP eg rfl 10 (by decide) (htl _ k_207) (fun _ h => h) rfl d_Pg_passReport_57 ?_
        refine gc_V (q := (R_Pg, F_Pg, 15)) (n := 2) [.int (nI (fl kv_9 1)), .int (nI ta)] [] hx hb hml hown hts hK hN hX hP hS (c_Pg_sendBetween eg eem (by omega) (by omega)) rfl eg k_661 k_663 ks_Pg_sendBetween k_1 k_664 (by decide +kernel) ⟨by decide, by decide⟩ rfl hl.1 rfl (Nat.le_of_ble_eq_true rfl) d_Pg_passReport_60 ⟨by decide, by decide⟩ (fun r N1 M_50 H locs hw hP hS => ?_)
        obtain ⟨rfl, hw⟩ := hw
        obtain ⟨rfl, rfl⟩ := hw
        have hP : gm_P D cls A N (gm_up M (g + 81) (.inl (ca 0, 4, .inl (iN (va_up (va_up (va_up (va_up em 0 ((fl kv_9 1) / 256)) 1 ((fl kv_9 1) % 256)) 2 (ta / 256)) 3 (ta % 256)))))) H := hP
        have h_51 := gm_pass (k := (g + 81)) (y := .inl (ca 0, 4, .inl (iN (va_up (va_up (va_up (va_up em 0 ((fl kv_9 1) / 256)) 1 ((fl kv_9 1) % 256)) 2 (ta / 256)) 3 (ta % 256))))) eg (gm_ne eg eem (fun h => by cases h))
        have h_52 := gm_pass (k := (g + 81)) (y := .inl (ca 0, 4, .inl (iN (va_up (va_up (va_up (va_up em 0 ((fl kv_9 1) / 256)) 1 ((fl kv_9 1) % 256)) 2 (ta / 256)) 3 (ta % 256))))) ex0 (gm_ne ex0 eem (fun h => by cases h))
        have h_53 := gm_pass (k := (g + 81)) (y := .inl (ca 0, 4, .inl (iN (va_up (va_up (va_up (va_up em 0 ((fl kv_9 1) / 256)) 1 ((fl kv_9 1) % 256)) 2 (ta / 256)) 3 (ta % 256))))) ex1 (by omega)
        have h_54 := gm_pass (k := (g + 81)) (y := .inl (ca 0, 4, .inl (iN (va_up (va_up (va_up (va_up em 0 ((fl kv_9 1) / 256)) 1 ((fl kv_9 1) % 256)) 2 (ta / 256)) 3 (ta % 256))))) ex2 (by omega)
        have h_55 := gm_pass (k := (g + 81)) (y := .inl (ca 0, 4, .inl (iN (va_up (va_up (va_up (va_up em 0 ((fl kv_9 1) / 256)) 1 ((fl kv_9 1) % 256)) 2 (ta / 256)) 3 (ta % 256))))) ex3 (by omega)
        have h_56 := gm_pass (k := (g + 81)) (y := .inl (ca 0, 4, .inl (iN (va_up (va_up (va_up (va_up em 0 ((fl kv_9 1) / 256)) 1 ((fl kv_9 1) % 256)) 2 (ta / 256)) 3 (ta % 256))))) ef (gm_ne ef eem (fun h => by cases h))
        have h_57 := gm_pass (k := (g + 81)) (y := .inl (ca 0, 4, .inl (iN (va_up (va_up (va_up (va_up em 0 ((fl kv_9 1) / 256)) 1 ((fl kv_9 1) % 256)) 2 (ta / 256)) 3 (ta % 256))))) efa (gm_ne efa eem (fun h => by simp at h))
        have h_58 := gm_up_self M (g + 81) (.inl (ca 0, 4, .inl (iN (va_up (va_up (va_up (va_up em 0 ((fl kv_9 1) / 256)) 1 ((fl kv_9 1) % 256)) 2 (ta / 256)) 3 (ta % 256)))))
        have hf_59 : ∀ fi, fi < 16 → (gm_up M (g + 81) (.inl (ca 0, 4, .inl (iN (va_up (va_up (va_up (va_up em 0 ((fl kv_9 1) / 256)) 1 ((fl kv_9 1) % 256)) 2 (ta / 256)) 3 (ta % 256)))))) (fa fi) = some (.inr (2, [.int (nI (fl fi 0)), .int (nI (fl fi 1)), .int (nI (fl fi 2)), .int (nI (fl fi 3)), .int (nI (fl fi 4)), .int (nI (fl fi 5)), .int (nI (fl fi 6)), .int (nI (fl fi 7))])) := fun fi hfi => gm_pass (k := (g + 81)) (y := .inl (ca 0, 4, .inl (iN (va_up (va_up (va_up (va_up em 0 ((fl kv_9 1) / 256)) 1 ((fl kv_9 1) % 256)) 2 (ta / 256)) 3 (ta % 256))))) (hf fi hfi) (gm_ne (hf fi hfi) eem (fun h => by cases h))
        refine W.eq (g2 := F0 m 63 ls [.int (nI 0)]) rfl ?_
        exact gc_iret hx hb hr hlk hP hS d_Pg_passReport_63 ⟨rfl, nI 0, (va_up (va_up (va_up (va_up em 0 ((fl kv_9 1) / 256)) 1 ((fl kv_9 1) % 256)) 2 (ta / 256)) 3 (ta % 256)), (by unfold repF; rw [if_neg (by omega), hm_38]; simp only [hq_47]; rfl), h_58, (fun z q0 => (gm_up_ne _ _ q0).trans (rfl)), rfl⟩
      · skip
        refine W.eq (g2 := F0 m 47 ls [.int (-1)]) rfl ?_
        have hq_60 := ffP_none (P := fun k => fl k 0 = pr0 ∧ fl k 1 = (fl kv_9 1) ∧ fl k 2 = ta) c_46
        refine lv_iconst (v := (-1)) hx hb d_Pg_passReport_47 (by decide) ?_
        refine lv_icmp_ne (tgt := 54) hx hb d_Pg_passReport_48 (by decide) (fun q => absurd q (by decide)) (fun _ => ?_)
        refine lv_bipush (v := (-4)) hx hb d_Pg_passReport_51 (by decide) ?_
        exact gc_iret hx hb hr hlk hP hS d_Pg_passReport_53 ⟨rfl, (-4), em, (by unfold repF; rw [if_neg (by omega), hm_38]; simp only [hq_60]), eem, (fun z q0 => rfl), rfl⟩
    · skip
      refine W.eq (g2 := F0 m 28 ls [.int (-1)]) rfl ?_
      have hm_61 := mpE_3 (po := po) (pi := pi) c_14 c_15
      refine lv_istore_n (lv' := [(2, .int (-1)), (0, .ref g), (1, .int (nI pr0))]) hx hb d_Pg_passReport_28 rfl hl (by decide) rfl (fun ls hl => ?_)
      refine lv_iload_n hx hb d_Pg_passReport_29 rfl (lv_at hl 0 rfl) ?_
      refine lv_iconst (v := (-1)) hx hb d_Pg_passReport_30 (by decide) ?_
      refine lv_icmp_eq (tgt := 51) hx hb d_Pg_passReport_31 (by decide) (fun _ => ?_) (fun q => absurd q (by decide))
      refine lv_bipush (v := (-4)) hx hb d_Pg_passReport_51 (by decide) ?_
      exact gc_iret hx hb hr hlk hP hS d_Pg_passReport_53 ⟨rfl, (-4), em, (by unfold repF; rw [if_neg (by omega), hm_61]), eem, (fun z q0 => rfl), rfl⟩
  · skip
    refine lv_bipush (v := (-4)) hx hb d_Pg_passReport_13 (by decide) ?_
    exact gc_iret hx hb hr hlk hP hS d_Pg_passReport_15 ⟨rfl, (-4), em, (by unfold repF; rw [if_pos (by omega)]), eem, (fun z q0 => rfl), rfl⟩
set_option maxHeartbeats 4000000 in
set_option maxRecDepth 100000 in
theorem c_Pg_passSealed {g cu be so ta tm lt nt : Nat} {bp : Int32} {nr : Nat} {ra : Nat → Nat} {em : Nat → Nat} {ru lw hw : Nat → Nat → Nat} {as0 tp sq au pr0 : Nat} {a0 a1 a3 ac : Int32} (eg : M g = some (.inr (8, [.ref (g + 1), .ref (g + 3), .ref (g + 4), .ref (g + 57), .ref (g + 59), .ref (g + 63), .ref (g + 81), .ref cu, .ref be, .int (nI so), .int (nI ta), .int (nI tm), .int (nI lt), .int (nI nt), .int bp]))) (eb : M (g + 4) = some (.inr (6, [.ref (g + 5), .int (nI nr)]))) (ea : M (g + 5) = some (.inl (ca 2, 17, .inr (.inr (.inr (.inr (oF ra))))))) (eem : M (g + 81) = some (.inl (ca 0, 4, .inl (iN em)))) (eas : M as0 = some (.inr (0, [.int a0, .int a1, .int (nI tp), .int a3, .int ac]))) (hr1 : ∀ fi, fi < nr → M (ra fi) = some (.inr (5, [.int (nI (ru fi 0)), .int (nI (ru fi 1)), .int (nI (ru fi 2)), .ref (ra fi + 1), .ref (ra fi + 2)]))) (hr2 : ∀ fi, fi < 17 → M (ra fi + 1) = some (.inl (ca 0, 3, .inl (iN (lw fi))))) (hr3 : ∀ fi, fi < 17 → M (ra fi + 2) = some (.inl (ca 0, 3, .inl (iN (hw fi))))) (hnr : nr ≤ 16) (hR : okR (g + 6) ra) (hU : okU nr ru lw hw) (hso : so < 65536) (hta : ta < 65536) (hpr0 : pr0 ≤ 2) (htp : tp < 10000) (hsq : sq < 10000) (hau : au ≤ 1) : gC l D ca A G y_Pg_passSealed (.code y_Pg_passSealed b_Pg_passSealed 5 (some .int)) ({ frames := 3, cells := 0, slots := 0, locals := 71 }) N M [.ref g, .ref as0, .int (nI sq), .int (nI au), .int (nI pr0)] gm_i (fun (r : Int32) (N1 : Nat) (M1 : gm_M) => N = N1 ∧ (((repl tp sq ac) ∧ M = M1 ∧ (-8) = r) ∨ ((¬ repl tp sq ac) ∧ (au = 0) ∧ M = M1 ∧ (-9) = r) ∨ (∃ (r0 : Int32) (em1 : Nat → Nat) (tp1 : Nat) (ac1 : Int32), (¬ repl tp sq ac) ∧ (¬ au = 0) ∧ ((if tp < sq then sq else tp) = tp1) ∧ (accB tp sq ac = ac1) ∧ (seF nr ru lw hw em so ta pr0 = (r0, em1)) ∧ M1 as0 = some (.inr (0, [.int a0, .int a1, .int (nI tp1), .int a3, .int ac1])) ∧ M1 (g + 81) = some (.inl (ca 0, 4, .inl (iN em1))) ∧ (∀ z, z ≠ as0 → z ≠ (g + 81) → M1 z = M z) ∧ r0 = r))) := by
  refine gm_body (by decide) (Nat.le_of_ble_eq_true rfl) (fun p e s m below meth c ls hx hb hr hts hown hlk hml hnm hP hK hN hX hS hl => ?_)
  have htl : ∀ w ∈ LW, w.before _ s = true := fun w h => hts w (List.mem_cons_of_mem _ h)
  have hown : s.vm.findClass "PacketGate" = some m.cls := hown
  have hl : lv_has ls 5 [(0, .ref g), (1, .ref as0), (2, .int (nI sq)), (3, .int (nI au)), (4, .int (nI pr0))] := hl
  refine lv_aload_n hx hb d_Pg_passSealed_0 rfl (lv_at hl 1 rfl) ?_
  refine lv_iload_n hx hb d_Pg_passSealed_1 rfl (lv_at hl 2 rfl) ?_
  refine gc_V (q := (R_As, F_As, 5)) (n := 1) [.int (nI sq)] [] hx hb hml hown hts hK hN hX hP hS (c_As_isReplay eas (by omega) (by omega)) rfl eas k_685 k_686 k_687 k_9 k_688 (by decide +kernel) ⟨by decide, by decide⟩ rfl hl.1 rfl (Nat.le_of_ble_eq_true rfl) d_Pg_passSealed_2 ⟨by decide, by decide⟩ (fun r N1 M_1 H locs hw hP hS => ?_)
  obtain ⟨rfl, hw⟩ := hw
  rcases hw with ⟨c_2, rfl, rfl⟩ | ⟨c_3, rfl, rfl⟩
  · skip
    refine W.eq (g2 := F0 m 5 ls [.int (nI 1)]) rfl ?_
    refine lv_if_eq (tgt := 11) hx hb d_Pg_passSealed_5 (by decide) (fun q => absurd q (by decide)) (fun _ => ?_)
    refine lv_bipush (v := (-8)) hx hb d_Pg_passSealed_8 (by decide) ?_
    exact gc_iret hx hb hr hlk hP hS d_Pg_passSealed_10 ⟨rfl, Or.inl ⟨by assumption, rfl, rfl⟩⟩
  · skip
    refine W.eq (g2 := F0 m 5 ls [.int (nI 0)]) rfl ?_
    refine lv_if_eq (tgt := 11) hx hb d_Pg_passSealed_5 (by decide) (fun _ => ?_) (fun q => absurd q (by decide))
    refine lv_iload_n hx hb d_Pg_passSealed_11 rfl (lv_at hl 3 rfl) ?_
    refine lz_ne (tgt := 18) hx hb d_Pg_passSealed_12 (by decide) (by omega) (fun c_4 => ?_) (fun c_4 => ?_)
    · skip
      refine lv_aload_n hx hb d_Pg_passSealed_18 rfl (lv_at hl 1 rfl) ?_
      refine lv_iload_n hx hb d_Pg_passSealed_19 rfl (lv_at hl 2 rfl) ?_
      refine gc_V (q := (R_As, F_As, 5)) (n := 1) [.int (nI sq)] [] hx hb hml hown hts hK hN hX hP hS (c_As_accept eas (by omega) (by omega)) rfl eas k_689 k_690 k_691 k_9 k_692 (by decide +kernel) ⟨by decide, by decide⟩ rfl hl.1 rfl (Nat.le_of_ble_eq_true rfl) d_Pg_passSealed_20 ⟨by decide, by decide⟩ (fun r N1 M_5 H locs hw hP hS => ?_)
      obtain ⟨rfl, hw⟩ := hw
      rcases hw with ⟨c_6, c_7, rfl⟩ | ⟨c_8, c_9, rfl⟩ | ⟨c_10, rfl⟩
      · skip
        have hP : gm_P D cls A N (gm_up M as0 (.inr (0, [.int a0, .int a1, .int (nI sq), .int a3, .int (ac <<< (nI (sq - tp) &&& 31) ||| nI 1)]))) H := hP
        have h_11 := gm_pass (k := as0) (y := .inr (0, [.int a0, .int a1, .int (nI sq), .int a3, .int (ac <<< (nI (sq - tp) &&& 31) ||| nI 1)])) eg (gm_ne eg eas (fun h => by cases h))
        have h_12 := gm_pass (k := as0) (y := .inr (0, [.int a0, .int a1, .int (nI sq), .int a3, .int (ac <<< (nI (sq - tp) &&& 31) ||| nI 1)])) eb (gm_ne eb eas (fun h => by cases h))
        have h_13 := gm_pass (k := as0) (y := .inr (0, [.int a0, .int a1, .int (nI sq), .int a3, .int (ac <<< (nI (sq - tp) &&& 31) ||| nI 1)])) ea (gm_ne ea eas (fun h => by cases h))
        have h_14 := gm_pass (k := as0) (y := .inr (0, [.int a0, .int a1, .int (nI sq), .int a3, .int (ac <<< (nI (sq - tp) &&& 31) ||| nI 1)])) eem (gm_ne eem eas (fun h => by cases h))
        have h_15 := gm_up_self M as0 (.inr (0, [.int a0, .int a1, .int (nI sq), .int a3, .int (ac <<< (nI (sq - tp) &&& 31) ||| nI 1)]))
        have hf_16 : ∀ fi, fi < nr → (gm_up M as0 (.inr (0, [.int a0, .int a1, .int (nI sq), .int a3, .int (ac <<< (nI (sq - tp) &&& 31) ||| nI 1)]))) (ra fi) = some (.inr (5, [.int (nI (ru fi 0)), .int (nI (ru fi 1)), .int (nI (ru fi 2)), .ref (ra fi + 1), .ref (ra fi + 2)])) := fun fi hfi => gm_pass (k := as0) (y := .inr (0, [.int a0, .int a1, .int (nI sq), .int a3, .int (ac <<< (nI (sq - tp) &&& 31) ||| nI 1)])) (hr1 fi hfi) (gm_ne (hr1 fi hfi) eas (fun h => by cases h))
        have hf_17 : ∀ fi, fi < 17 → (gm_up M as0 (.inr (0, [.int a0, .int a1, .int (nI sq), .int a3, .int (ac <<< (nI (sq - tp) &&& 31) ||| nI 1)]))) (ra fi + 1) = some (.inl (ca 0, 3, .inl (iN (lw fi)))) := fun fi hfi => gm_pass (k := as0) (y := .inr (0, [.int a0, .int a1, .int (nI sq), .int a3, .int (ac <<< (nI (sq - tp) &&& 31) ||| nI 1)])) (hr2 fi hfi) (gm_ne (hr2 fi hfi) eas (fun h => by cases h))
        have hf_18 : ∀ fi, fi < 17 → (gm_up M as0 (.inr (0, [.int a0, .int a1, .int (nI sq), .int a3, .int (ac <<< (nI (sq - tp) &&& 31) ||| nI 1)]))) (ra fi + 2) = some (.inl (ca 0, 3, .inl (iN (hw fi)))) := fun fi hfi => gm_pass (k := as0) (y := .inr (0, [.int a0, .int a1, .int (nI sq), .int a3, .int (ac <<< (nI (sq - tp) &&& 31) ||| nI 1)])) (hr3 fi hfi) (gm_ne (hr3 fi hfi) eas (fun h => by cases h))
        refine W.eq (g2 := F0 m 23 ls []) rfl ?_
        refine lv_aload_n hx hb d_Pg_passSealed_23 rfl (lv_at hl 0 rfl) ?_
        refine gm_get (C := R_Pg) (T := F_Pg) (n := 15) hx hb htl i_Pg hown hK hP h_11 rfl 9 (by decide) (htl _ k_206) (fun _ h => h) rfl d_Pg_passSealed_24 ?_
        refine gc_S (n := 1) [.int (nI so)] [] hx hb hml hown hts hK hN hX hP hS (c_Pg_isOutside so (by omega)) k_564 k_565 k_1 k_566 (by decide +kernel) ⟨by decide, by decide⟩ rfl hl.1 rfl (Nat.le_of_ble_eq_true rfl) d_Pg_passSealed_27 ⟨by decide, by decide⟩ (fun r N1 M_19 H locs hw hP hS => ?_)
        obtain ⟨rfl, hw⟩ := hw
        rcases hw with ⟨c_20, rfl, rfl⟩ | ⟨c_21, rfl, rfl⟩
        · skip
          refine W.eq (g2 := F0 m 30 ls [.int (nI 1)]) rfl ?_
          refine lv_if_eq (tgt := 43) hx hb d_Pg_passSealed_30 (by decide) (fun q => absurd q (by decide)) (fun _ => ?_)
          refine lv_aload_n hx hb d_Pg_passSealed_33 rfl (lv_at hl 0 rfl) ?_
          refine gm_get (C := R_Pg) (T := F_Pg) (n := 15) hx hb htl i_Pg hown hK hP h_11 rfl 10 (by decide) (htl _ k_207) (fun _ h => h) rfl d_Pg_passSealed_34 ?_
          refine gc_S (n := 1) [.int (nI ta)] [] hx hb hml hown hts hK hN hX hP hS (c_Pg_isInside ta (by omega)) k_558 k_559 k_1 k_560 (by decide +kernel) ⟨by decide, by decide⟩ rfl hl.1 rfl (Nat.le_of_ble_eq_true rfl) d_Pg_passSealed_37 ⟨by decide, by decide⟩ (fun r N1 M_22 H locs hw hP hS => ?_)
          obtain ⟨rfl, hw⟩ := hw
          rcases hw with ⟨c_23, rfl, rfl⟩ | ⟨c_24, rfl, rfl⟩
          · skip
            refine W.eq (g2 := F0 m 40 ls [.int (nI 1)]) rfl ?_
            refine lv_if_ne (tgt := 46) hx hb d_Pg_passSealed_40 (by decide) (fun _ => ?_) (fun q => absurd q (by decide))
            refine lv_aload_n hx hb d_Pg_passSealed_46 rfl (lv_at hl 0 rfl) ?_
            refine gm_get (C := R_Pg) (T := F_Pg) (n := 15) hx hb htl i_Pg hown hK hP h_11 rfl 2 (by decide) (htl _ k_199) (fun _ h => h) rfl d_Pg_passSealed_47 ?_
            refine lv_iconst (v := nI 0) hx hb d_Pg_passSealed_50 (by decide) ?_
            refine lv_iload hx hb d_Pg_passSealed_51 (lv_at hl 4 rfl) ?_
            refine lv_aload_n hx hb d_Pg_passSealed_53 rfl (lv_at hl 0 rfl) ?_
            refine gm_get (C := R_Pg) (T := F_Pg) (n := 15) hx hb htl i_Pg hown hK hP h_11 rfl 9 (by decide) (htl _ k_206) (fun _ h => h) rfl d_Pg_passSealed_54 ?_
            refine lv_aload_n hx hb d_Pg_passSealed_57 rfl (lv_at hl 0 rfl) ?_
            refine gm_get (C := R_Pg) (T := F_Pg) (n := 15) hx hb htl i_Pg hown hK hP h_11 rfl 10 (by decide) (htl _ k_207) (fun _ h => h) rfl d_Pg_passSealed_58 ?_
            refine gc_V (q := (R_Rb, F_Rb, 2)) (n := 4) [.int (nI 0), .int (nI pr0), .int (nI so), .int (nI ta)] [] hx hb hml hown hts hK hN hX hP hS (c_Rb_policy h_12 h_13 hf_16 hf_17 hf_18 (by omega) hU (by omega) (by omega) (by omega) (by omega)) rfl h_12 k_608 k_609 k_610 k_4 k_611 (by decide +kernel) ⟨by decide, by decide⟩ rfl hl.1 rfl (Nat.le_of_ble_eq_true rfl) d_Pg_passSealed_61 ⟨by decide, by decide⟩ (fun r N1 M_25 H locs hw hP hS => ?_)
            obtain ⟨rfl, hw⟩ := hw
            obtain ⟨av_26, c_27, c_28, rfl, rfl⟩ := hw
            refine W.eq (g2 := F0 m 64 ls [.int (nI av_26)]) rfl ?_
            have hp_29 := pol_F c_27
            refine lv_iconst (v := nI 2) hx hb d_Pg_passSealed_64 (by decide) ?_
            refine ln_eq (tgt := 71) hx hb d_Pg_passSealed_65 (by decide) (by omega) (by omega) (fun c_30 => ?_) (fun c_30 => ?_)
            · skip
              refine lv_aload_n hx hb d_Pg_passSealed_71 rfl (lv_at hl 0 rfl) ?_
              refine lv_aload_n hx hb d_Pg_passSealed_72 rfl (lv_at hl 0 rfl) ?_
              refine gm_get (C := R_Pg) (T := F_Pg) (n := 15) hx hb htl i_Pg hown hK hP h_11 rfl 9 (by decide) (htl _ k_206) (fun _ h => h) rfl d_Pg_passSealed_73 ?_
              refine lv_aload_n hx hb d_Pg_passSealed_76 rfl (lv_at hl 0 rfl) ?_
              refine gm_get (C := R_Pg) (T := F_Pg) (n := 15) hx hb htl i_Pg hown hK hP h_11 rfl 10 (by decide) (htl _ k_207) (fun _ h => h) rfl d_Pg_passSealed_77 ?_
              refine gc_V (q := (R_Pg, F_Pg, 15)) (n := 2) [.int (nI so), .int (nI ta)] [] hx hb hml hown hts hK hN hX hP hS (c_Pg_sendBetween h_11 h_14 (by omega) (by omega)) rfl h_11 k_661 k_663 ks_Pg_sendBetween k_1 k_664 (by decide +kernel) ⟨by decide, by decide⟩ rfl hl.1 rfl (Nat.le_of_ble_eq_true rfl) d_Pg_passSealed_80 ⟨by decide, by decide⟩ (fun r N1 M_31 H locs hw hP hS => ?_)
              obtain ⟨rfl, hw⟩ := hw
              obtain ⟨rfl, rfl⟩ := hw
              have hP : gm_P D cls A N (gm_up (gm_up M as0 (.inr (0, [.int a0, .int a1, .int (nI sq), .int a3, .int (ac <<< (nI (sq - tp) &&& 31) ||| nI 1)]))) (g + 81) (.inl (ca 0, 4, .inl (iN (va_up (va_up (va_up (va_up em 0 (so / 256)) 1 (so % 256)) 2 (ta / 256)) 3 (ta % 256)))))) H := hP
              have h_32 := gm_pass (k := (g + 81)) (y := .inl (ca 0, 4, .inl (iN (va_up (va_up (va_up (va_up em 0 (so / 256)) 1 (so % 256)) 2 (ta / 256)) 3 (ta % 256))))) h_11 (gm_ne h_11 h_14 (fun h => by cases h))
              have h_33 := gm_pass (k := (g + 81)) (y := .inl (ca 0, 4, .inl (iN (va_up (va_up (va_up (va_up em 0 (so / 256)) 1 (so % 256)) 2 (ta / 256)) 3 (ta % 256))))) h_12 (gm_ne h_12 h_14 (fun h => by cases h))
              have h_34 := gm_pass (k := (g + 81)) (y := .inl (ca 0, 4, .inl (iN (va_up (va_up (va_up (va_up em 0 (so / 256)) 1 (so % 256)) 2 (ta / 256)) 3 (ta % 256))))) h_13 (gm_ne h_13 h_14 (fun h => by simp at h))
              have h_35 := gm_pass (k := (g + 81)) (y := .inl (ca 0, 4, .inl (iN (va_up (va_up (va_up (va_up em 0 (so / 256)) 1 (so % 256)) 2 (ta / 256)) 3 (ta % 256))))) h_15 (gm_ne h_15 h_14 (fun h => by cases h))
              have h_36 := gm_up_self (gm_up M as0 (.inr (0, [.int a0, .int a1, .int (nI sq), .int a3, .int (ac <<< (nI (sq - tp) &&& 31) ||| nI 1)]))) (g + 81) (.inl (ca 0, 4, .inl (iN (va_up (va_up (va_up (va_up em 0 (so / 256)) 1 (so % 256)) 2 (ta / 256)) 3 (ta % 256)))))
              have hf_37 : ∀ fi, fi < nr → (gm_up (gm_up M as0 (.inr (0, [.int a0, .int a1, .int (nI sq), .int a3, .int (ac <<< (nI (sq - tp) &&& 31) ||| nI 1)]))) (g + 81) (.inl (ca 0, 4, .inl (iN (va_up (va_up (va_up (va_up em 0 (so / 256)) 1 (so % 256)) 2 (ta / 256)) 3 (ta % 256)))))) (ra fi) = some (.inr (5, [.int (nI (ru fi 0)), .int (nI (ru fi 1)), .int (nI (ru fi 2)), .ref (ra fi + 1), .ref (ra fi + 2)])) := fun fi hfi => gm_pass (k := (g + 81)) (y := .inl (ca 0, 4, .inl (iN (va_up (va_up (va_up (va_up em 0 (so / 256)) 1 (so % 256)) 2 (ta / 256)) 3 (ta % 256))))) (hf_16 fi hfi) (gm_ne (hf_16 fi hfi) h_14 (fun h => by cases h))
              have hf_38 : ∀ fi, fi < 17 → (gm_up (gm_up M as0 (.inr (0, [.int a0, .int a1, .int (nI sq), .int a3, .int (ac <<< (nI (sq - tp) &&& 31) ||| nI 1)]))) (g + 81) (.inl (ca 0, 4, .inl (iN (va_up (va_up (va_up (va_up em 0 (so / 256)) 1 (so % 256)) 2 (ta / 256)) 3 (ta % 256)))))) (ra fi + 1) = some (.inl (ca 0, 3, .inl (iN (lw fi)))) := fun fi hfi => gm_pass (k := (g + 81)) (y := .inl (ca 0, 4, .inl (iN (va_up (va_up (va_up (va_up em 0 (so / 256)) 1 (so % 256)) 2 (ta / 256)) 3 (ta % 256))))) (hf_17 fi hfi) (gm_ne (hf_17 fi hfi) h_14 (fun h => by simp at h))
              have hf_39 : ∀ fi, fi < 17 → (gm_up (gm_up M as0 (.inr (0, [.int a0, .int a1, .int (nI sq), .int a3, .int (ac <<< (nI (sq - tp) &&& 31) ||| nI 1)]))) (g + 81) (.inl (ca 0, 4, .inl (iN (va_up (va_up (va_up (va_up em 0 (so / 256)) 1 (so % 256)) 2 (ta / 256)) 3 (ta % 256)))))) (ra fi + 2) = some (.inl (ca 0, 3, .inl (iN (hw fi)))) := fun fi hfi => gm_pass (k := (g + 81)) (y := .inl (ca 0, 4, .inl (iN (va_up (va_up (va_up (va_up em 0 (so / 256)) 1 (so % 256)) 2 (ta / 256)) 3 (ta % 256))))) (hf_18 fi hfi) (gm_ne (hf_18 fi hfi) h_14 (fun h => by simp at h))
              refine W.eq (g2 := F0 m 83 ls [.int (nI 0)]) rfl ?_
              exact gc_iret hx hb hr hlk hP hS d_Pg_passSealed_83 ⟨rfl, Or.inr (Or.inr ⟨nI 0, (va_up (va_up (va_up (va_up em 0 (so / 256)) 1 (so % 256)) 2 (ta / 256)) 3 (ta % 256)), sq, (ac <<< (nI (sq - tp) &&& 31) ||| nI 1), (fun h => c_3.elim (fun q => Nat.not_le.mpr q h.1) (fun q => h.2.elim (fun z => Nat.not_le.mpr q.1 z) (fun z => z q.2))), by assumption, (by first | rw [if_pos (by assumption)] | rw [if_neg (by omega)]), (by unfold accB; rw [if_pos c_6, if_pos c_7]), (by unfold seF; rw [if_neg (by omega), hp_29, if_neg (by omega)]; rfl), h_35, h_36, (fun z q0 q1 => (gm_up_ne _ _ q1).trans ((gm_up_ne _ _ q0).trans (rfl))), rfl⟩)⟩
            · skip
              refine lv_bipush (v := (-4)) hx hb d_Pg_passSealed_68 (by decide) ?_
              exact gc_iret hx hb hr hlk hP hS d_Pg_passSealed_70 ⟨rfl, Or.inr (Or.inr ⟨(-4), em, sq, (ac <<< (nI (sq - tp) &&& 31) ||| nI 1), (fun h => c_3.elim (fun q => Nat.not_le.mpr q h.1) (fun q => h.2.elim (fun z => Nat.not_le.mpr q.1 z) (fun z => z q.2))), by assumption, (by first | rw [if_pos (by assumption)] | rw [if_neg (by omega)]), (by unfold accB; rw [if_pos c_6, if_pos c_7]), (by unfold seF; rw [if_neg (by omega), hp_29, if_pos (by omega)]), h_15, h_14, (fun z q0 q1 => (gm_up_ne _ _ q0).trans (rfl)), rfl⟩)⟩
          · skip
            refine W.eq (g2 := F0 m 40 ls [.int (nI 0)]) rfl ?_
            refine lv_if_ne (tgt := 46) hx hb d_Pg_passSealed_40 (by decide) (fun q => absurd q (by decide)) (fun _ => ?_)
            refine lv_bipush (v := (-5)) hx hb d_Pg_passSealed_43 (by decide) ?_
            exact gc_iret hx hb hr hlk hP hS d_Pg_passSealed_45 ⟨rfl, Or.inr (Or.inr ⟨(-5), em, sq, (ac <<< (nI (sq - tp) &&& 31) ||| nI 1), (fun h => c_3.elim (fun q => Nat.not_le.mpr q h.1) (fun q => h.2.elim (fun z => Nat.not_le.mpr q.1 z) (fun z => z q.2))), by assumption, (by first | rw [if_pos (by assumption)] | rw [if_neg (by omega)]), (by unfold accB; rw [if_pos c_6, if_pos c_7]), (by unfold seF; rw [if_pos (by omega)]), h_15, h_14, (fun z q0 q1 => (gm_up_ne _ _ q0).trans (rfl)), rfl⟩)⟩
        · skip
          refine W.eq (g2 := F0 m 30 ls [.int (nI 0)]) rfl ?_
          refine lv_if_eq (tgt := 43) hx hb d_Pg_passSealed_30 (by decide) (fun _ => ?_) (fun q => absurd q (by decide))
          refine lv_bipush (v := (-5)) hx hb d_Pg_passSealed_43 (by decide) ?_
          exact gc_iret hx hb hr hlk hP hS d_Pg_passSealed_45 ⟨rfl, Or.inr (Or.inr ⟨(-5), em, sq, (ac <<< (nI (sq - tp) &&& 31) ||| nI 1), (fun h => c_3.elim (fun q => Nat.not_le.mpr q h.1) (fun q => h.2.elim (fun z => Nat.not_le.mpr q.1 z) (fun z => z q.2))), by assumption, (by first | rw [if_pos (by assumption)] | rw [if_neg (by omega)]), (by unfold accB; rw [if_pos c_6, if_pos c_7]), (by unfold seF; rw [if_pos (by omega)]), h_15, h_14, (fun z q0 q1 => (gm_up_ne _ _ q0).trans (rfl)), rfl⟩)⟩
      · skip
        have hP : gm_P D cls A N (gm_up M as0 (.inr (0, [.int a0, .int a1, .int (nI sq), .int a3, .int (nI 1)]))) H := hP
        have h_40 := gm_pass (k := as0) (y := .inr (0, [.int a0, .int a1, .int (nI sq), .int a3, .int (nI 1)])) eg (gm_ne eg eas (fun h => by cases h))
        have h_41 := gm_pass (k := as0) (y := .inr (0, [.int a0, .int a1, .int (nI sq), .int a3, .int (nI 1)])) eb (gm_ne eb eas (fun h => by cases h))
        have h_42 := gm_pass (k := as0) (y := .inr (0, [.int a0, .int a1, .int (nI sq), .int a3, .int (nI 1)])) ea (gm_ne ea eas (fun h => by cases h))
        have h_43 := gm_pass (k := as0) (y := .inr (0, [.int a0, .int a1, .int (nI sq), .int a3, .int (nI 1)])) eem (gm_ne eem eas (fun h => by cases h))
        have h_44 := gm_up_self M as0 (.inr (0, [.int a0, .int a1, .int (nI sq), .int a3, .int (nI 1)]))
        have hf_45 : ∀ fi, fi < nr → (gm_up M as0 (.inr (0, [.int a0, .int a1, .int (nI sq), .int a3, .int (nI 1)]))) (ra fi) = some (.inr (5, [.int (nI (ru fi 0)), .int (nI (ru fi 1)), .int (nI (ru fi 2)), .ref (ra fi + 1), .ref (ra fi + 2)])) := fun fi hfi => gm_pass (k := as0) (y := .inr (0, [.int a0, .int a1, .int (nI sq), .int a3, .int (nI 1)])) (hr1 fi hfi) (gm_ne (hr1 fi hfi) eas (fun h => by cases h))
        have hf_46 : ∀ fi, fi < 17 → (gm_up M as0 (.inr (0, [.int a0, .int a1, .int (nI sq), .int a3, .int (nI 1)]))) (ra fi + 1) = some (.inl (ca 0, 3, .inl (iN (lw fi)))) := fun fi hfi => gm_pass (k := as0) (y := .inr (0, [.int a0, .int a1, .int (nI sq), .int a3, .int (nI 1)])) (hr2 fi hfi) (gm_ne (hr2 fi hfi) eas (fun h => by cases h))
        have hf_47 : ∀ fi, fi < 17 → (gm_up M as0 (.inr (0, [.int a0, .int a1, .int (nI sq), .int a3, .int (nI 1)]))) (ra fi + 2) = some (.inl (ca 0, 3, .inl (iN (hw fi)))) := fun fi hfi => gm_pass (k := as0) (y := .inr (0, [.int a0, .int a1, .int (nI sq), .int a3, .int (nI 1)])) (hr3 fi hfi) (gm_ne (hr3 fi hfi) eas (fun h => by cases h))
        refine W.eq (g2 := F0 m 23 ls []) rfl ?_
        refine lv_aload_n hx hb d_Pg_passSealed_23 rfl (lv_at hl 0 rfl) ?_
        refine gm_get (C := R_Pg) (T := F_Pg) (n := 15) hx hb htl i_Pg hown hK hP h_40 rfl 9 (by decide) (htl _ k_206) (fun _ h => h) rfl d_Pg_passSealed_24 ?_
        refine gc_S (n := 1) [.int (nI so)] [] hx hb hml hown hts hK hN hX hP hS (c_Pg_isOutside so (by omega)) k_564 k_565 k_1 k_566 (by decide +kernel) ⟨by decide, by decide⟩ rfl hl.1 rfl (Nat.le_of_ble_eq_true rfl) d_Pg_passSealed_27 ⟨by decide, by decide⟩ (fun r N1 M_48 H locs hw hP hS => ?_)
        obtain ⟨rfl, hw⟩ := hw
        rcases hw with ⟨c_49, rfl, rfl⟩ | ⟨c_50, rfl, rfl⟩
        · skip
          refine W.eq (g2 := F0 m 30 ls [.int (nI 1)]) rfl ?_
          refine lv_if_eq (tgt := 43) hx hb d_Pg_passSealed_30 (by decide) (fun q => absurd q (by decide)) (fun _ => ?_)
          refine lv_aload_n hx hb d_Pg_passSealed_33 rfl (lv_at hl 0 rfl) ?_
          refine gm_get (C := R_Pg) (T := F_Pg) (n := 15) hx hb htl i_Pg hown hK hP h_40 rfl 10 (by decide) (htl _ k_207) (fun _ h => h) rfl d_Pg_passSealed_34 ?_
          refine gc_S (n := 1) [.int (nI ta)] [] hx hb hml hown hts hK hN hX hP hS (c_Pg_isInside ta (by omega)) k_558 k_559 k_1 k_560 (by decide +kernel) ⟨by decide, by decide⟩ rfl hl.1 rfl (Nat.le_of_ble_eq_true rfl) d_Pg_passSealed_37 ⟨by decide, by decide⟩ (fun r N1 M_51 H locs hw hP hS => ?_)
          obtain ⟨rfl, hw⟩ := hw
          rcases hw with ⟨c_52, rfl, rfl⟩ | ⟨c_53, rfl, rfl⟩
          · skip
            refine W.eq (g2 := F0 m 40 ls [.int (nI 1)]) rfl ?_
            refine lv_if_ne (tgt := 46) hx hb d_Pg_passSealed_40 (by decide) (fun _ => ?_) (fun q => absurd q (by decide))
            refine lv_aload_n hx hb d_Pg_passSealed_46 rfl (lv_at hl 0 rfl) ?_
            refine gm_get (C := R_Pg) (T := F_Pg) (n := 15) hx hb htl i_Pg hown hK hP h_40 rfl 2 (by decide) (htl _ k_199) (fun _ h => h) rfl d_Pg_passSealed_47 ?_
            refine lv_iconst (v := nI 0) hx hb d_Pg_passSealed_50 (by decide) ?_
            refine lv_iload hx hb d_Pg_passSealed_51 (lv_at hl 4 rfl) ?_
            refine lv_aload_n hx hb d_Pg_passSealed_53 rfl (lv_at hl 0 rfl) ?_
            refine gm_get (C := R_Pg) (T := F_Pg) (n := 15) hx hb htl i_Pg hown hK hP h_40 rfl 9 (by decide) (htl _ k_206) (fun _ h => h) rfl d_Pg_passSealed_54 ?_
            refine lv_aload_n hx hb d_Pg_passSealed_57 rfl (lv_at hl 0 rfl) ?_
            refine gm_get (C := R_Pg) (T := F_Pg) (n := 15) hx hb htl i_Pg hown hK hP h_40 rfl 10 (by decide) (htl _ k_207) (fun _ h => h) rfl d_Pg_passSealed_58 ?_
            refine gc_V (q := (R_Rb, F_Rb, 2)) (n := 4) [.int (nI 0), .int (nI pr0), .int (nI so), .int (nI ta)] [] hx hb hml hown hts hK hN hX hP hS (c_Rb_policy h_41 h_42 hf_45 hf_46 hf_47 (by omega) hU (by omega) (by omega) (by omega) (by omega)) rfl h_41 k_608 k_609 k_610 k_4 k_611 (by decide +kernel) ⟨by decide, by decide⟩ rfl hl.1 rfl (Nat.le_of_ble_eq_true rfl) d_Pg_passSealed_61 ⟨by decide, by decide⟩ (fun r N1 M_54 H locs hw hP hS => ?_)
            obtain ⟨rfl, hw⟩ := hw
            obtain ⟨av_55, c_56, c_57, rfl, rfl⟩ := hw
            refine W.eq (g2 := F0 m 64 ls [.int (nI av_55)]) rfl ?_
            have hp_58 := pol_F c_56
            refine lv_iconst (v := nI 2) hx hb d_Pg_passSealed_64 (by decide) ?_
            refine ln_eq (tgt := 71) hx hb d_Pg_passSealed_65 (by decide) (by omega) (by omega) (fun c_59 => ?_) (fun c_59 => ?_)
            · skip
              refine lv_aload_n hx hb d_Pg_passSealed_71 rfl (lv_at hl 0 rfl) ?_
              refine lv_aload_n hx hb d_Pg_passSealed_72 rfl (lv_at hl 0 rfl) ?_
              refine gm_get (C := R_Pg) (T := F_Pg) (n := 15) hx hb htl i_Pg hown hK hP h_40 rfl 9 (by decide) (htl _ k_206) (fun _ h => h) rfl d_Pg_passSealed_73 ?_
              refine lv_aload_n hx hb d_Pg_passSealed_76 rfl (lv_at hl 0 rfl) ?_
              refine gm_get (C := R_Pg) (T := F_Pg) (n := 15) hx hb htl i_Pg hown hK hP h_40 rfl 10 (by decide) (htl _ k_207) (fun _ h => h) rfl d_Pg_passSealed_77 ?_
              refine gc_V (q := (R_Pg, F_Pg, 15)) (n := 2) [.int (nI so), .int (nI ta)] [] hx hb hml hown hts hK hN hX hP hS (c_Pg_sendBetween h_40 h_43 (by omega) (by omega)) rfl h_40 k_661 k_663 ks_Pg_sendBetween k_1 k_664 (by decide +kernel) ⟨by decide, by decide⟩ rfl hl.1 rfl (Nat.le_of_ble_eq_true rfl) d_Pg_passSealed_80 ⟨by decide, by decide⟩ (fun r N1 M_60 H locs hw hP hS => ?_)
              obtain ⟨rfl, hw⟩ := hw
              obtain ⟨rfl, rfl⟩ := hw
              have hP : gm_P D cls A N (gm_up (gm_up M as0 (.inr (0, [.int a0, .int a1, .int (nI sq), .int a3, .int (nI 1)]))) (g + 81) (.inl (ca 0, 4, .inl (iN (va_up (va_up (va_up (va_up em 0 (so / 256)) 1 (so % 256)) 2 (ta / 256)) 3 (ta % 256)))))) H := hP
              have h_61 := gm_pass (k := (g + 81)) (y := .inl (ca 0, 4, .inl (iN (va_up (va_up (va_up (va_up em 0 (so / 256)) 1 (so % 256)) 2 (ta / 256)) 3 (ta % 256))))) h_40 (gm_ne h_40 h_43 (fun h => by cases h))
              have h_62 := gm_pass (k := (g + 81)) (y := .inl (ca 0, 4, .inl (iN (va_up (va_up (va_up (va_up em 0 (so / 256)) 1 (so % 256)) 2 (ta / 256)) 3 (ta % 256))))) h_41 (gm_ne h_41 h_43 (fun h => by cases h))
              have h_63 := gm_pass (k := (g + 81)) (y := .inl (ca 0, 4, .inl (iN (va_up (va_up (va_up (va_up em 0 (so / 256)) 1 (so % 256)) 2 (ta / 256)) 3 (ta % 256))))) h_42 (gm_ne h_42 h_43 (fun h => by simp at h))
              have h_64 := gm_pass (k := (g + 81)) (y := .inl (ca 0, 4, .inl (iN (va_up (va_up (va_up (va_up em 0 (so / 256)) 1 (so % 256)) 2 (ta / 256)) 3 (ta % 256))))) h_44 (gm_ne h_44 h_43 (fun h => by cases h))
              have h_65 := gm_up_self (gm_up M as0 (.inr (0, [.int a0, .int a1, .int (nI sq), .int a3, .int (nI 1)]))) (g + 81) (.inl (ca 0, 4, .inl (iN (va_up (va_up (va_up (va_up em 0 (so / 256)) 1 (so % 256)) 2 (ta / 256)) 3 (ta % 256)))))
              have hf_66 : ∀ fi, fi < nr → (gm_up (gm_up M as0 (.inr (0, [.int a0, .int a1, .int (nI sq), .int a3, .int (nI 1)]))) (g + 81) (.inl (ca 0, 4, .inl (iN (va_up (va_up (va_up (va_up em 0 (so / 256)) 1 (so % 256)) 2 (ta / 256)) 3 (ta % 256)))))) (ra fi) = some (.inr (5, [.int (nI (ru fi 0)), .int (nI (ru fi 1)), .int (nI (ru fi 2)), .ref (ra fi + 1), .ref (ra fi + 2)])) := fun fi hfi => gm_pass (k := (g + 81)) (y := .inl (ca 0, 4, .inl (iN (va_up (va_up (va_up (va_up em 0 (so / 256)) 1 (so % 256)) 2 (ta / 256)) 3 (ta % 256))))) (hf_45 fi hfi) (gm_ne (hf_45 fi hfi) h_43 (fun h => by cases h))
              have hf_67 : ∀ fi, fi < 17 → (gm_up (gm_up M as0 (.inr (0, [.int a0, .int a1, .int (nI sq), .int a3, .int (nI 1)]))) (g + 81) (.inl (ca 0, 4, .inl (iN (va_up (va_up (va_up (va_up em 0 (so / 256)) 1 (so % 256)) 2 (ta / 256)) 3 (ta % 256)))))) (ra fi + 1) = some (.inl (ca 0, 3, .inl (iN (lw fi)))) := fun fi hfi => gm_pass (k := (g + 81)) (y := .inl (ca 0, 4, .inl (iN (va_up (va_up (va_up (va_up em 0 (so / 256)) 1 (so % 256)) 2 (ta / 256)) 3 (ta % 256))))) (hf_46 fi hfi) (gm_ne (hf_46 fi hfi) h_43 (fun h => by simp at h))
              have hf_68 : ∀ fi, fi < 17 → (gm_up (gm_up M as0 (.inr (0, [.int a0, .int a1, .int (nI sq), .int a3, .int (nI 1)]))) (g + 81) (.inl (ca 0, 4, .inl (iN (va_up (va_up (va_up (va_up em 0 (so / 256)) 1 (so % 256)) 2 (ta / 256)) 3 (ta % 256)))))) (ra fi + 2) = some (.inl (ca 0, 3, .inl (iN (hw fi)))) := fun fi hfi => gm_pass (k := (g + 81)) (y := .inl (ca 0, 4, .inl (iN (va_up (va_up (va_up (va_up em 0 (so / 256)) 1 (so % 256)) 2 (ta / 256)) 3 (ta % 256))))) (hf_47 fi hfi) (gm_ne (hf_47 fi hfi) h_43 (fun h => by simp at h))
              refine W.eq (g2 := F0 m 83 ls [.int (nI 0)]) rfl ?_
              exact gc_iret hx hb hr hlk hP hS d_Pg_passSealed_83 ⟨rfl, Or.inr (Or.inr ⟨nI 0, (va_up (va_up (va_up (va_up em 0 (so / 256)) 1 (so % 256)) 2 (ta / 256)) 3 (ta % 256)), sq, (nI 1), (fun h => c_3.elim (fun q => Nat.not_le.mpr q h.1) (fun q => h.2.elim (fun z => Nat.not_le.mpr q.1 z) (fun z => z q.2))), by assumption, (by first | rw [if_pos (by assumption)] | rw [if_neg (by omega)]), (by unfold accB; rw [if_pos c_8, if_neg (by omega)]), (by unfold seF; rw [if_neg (by omega), hp_58, if_neg (by omega)]; rfl), h_64, h_65, (fun z q0 q1 => (gm_up_ne _ _ q1).trans ((gm_up_ne _ _ q0).trans (rfl))), rfl⟩)⟩
            · skip
              refine lv_bipush (v := (-4)) hx hb d_Pg_passSealed_68 (by decide) ?_
              exact gc_iret hx hb hr hlk hP hS d_Pg_passSealed_70 ⟨rfl, Or.inr (Or.inr ⟨(-4), em, sq, (nI 1), (fun h => c_3.elim (fun q => Nat.not_le.mpr q h.1) (fun q => h.2.elim (fun z => Nat.not_le.mpr q.1 z) (fun z => z q.2))), by assumption, (by first | rw [if_pos (by assumption)] | rw [if_neg (by omega)]), (by unfold accB; rw [if_pos c_8, if_neg (by omega)]), (by unfold seF; rw [if_neg (by omega), hp_58, if_pos (by omega)]), h_44, h_43, (fun z q0 q1 => (gm_up_ne _ _ q0).trans (rfl)), rfl⟩)⟩
          · skip
            refine W.eq (g2 := F0 m 40 ls [.int (nI 0)]) rfl ?_
            refine lv_if_ne (tgt := 46) hx hb d_Pg_passSealed_40 (by decide) (fun q => absurd q (by decide)) (fun _ => ?_)
            refine lv_bipush (v := (-5)) hx hb d_Pg_passSealed_43 (by decide) ?_
            exact gc_iret hx hb hr hlk hP hS d_Pg_passSealed_45 ⟨rfl, Or.inr (Or.inr ⟨(-5), em, sq, (nI 1), (fun h => c_3.elim (fun q => Nat.not_le.mpr q h.1) (fun q => h.2.elim (fun z => Nat.not_le.mpr q.1 z) (fun z => z q.2))), by assumption, (by first | rw [if_pos (by assumption)] | rw [if_neg (by omega)]), (by unfold accB; rw [if_pos c_8, if_neg (by omega)]), (by unfold seF; rw [if_pos (by omega)]), h_44, h_43, (fun z q0 q1 => (gm_up_ne _ _ q0).trans (rfl)), rfl⟩)⟩
        · skip
          refine W.eq (g2 := F0 m 30 ls [.int (nI 0)]) rfl ?_
          refine lv_if_eq (tgt := 43) hx hb d_Pg_passSealed_30 (by decide) (fun _ => ?_) (fun q => absurd q (by decide))
          refine lv_bipush (v := (-5)) hx hb d_Pg_passSealed_43 (by decide) ?_
          exact gc_iret hx hb hr hlk hP hS d_Pg_passSealed_45 ⟨rfl, Or.inr (Or.inr ⟨(-5), em, sq, (nI 1), (fun h => c_3.elim (fun q => Nat.not_le.mpr q h.1) (fun q => h.2.elim (fun z => Nat.not_le.mpr q.1 z) (fun z => z q.2))), by assumption, (by first | rw [if_pos (by assumption)] | rw [if_neg (by omega)]), (by unfold accB; rw [if_pos c_8, if_neg (by omega)]), (by unfold seF; rw [if_pos (by omega)]), h_44, h_43, (fun z q0 q1 => (gm_up_ne _ _ q0).trans (rfl)), rfl⟩)⟩
      · skip
        have hP : gm_P D cls A N (gm_up M as0 (.inr (0, [.int a0, .int a1, .int (nI tp), .int a3, .int (ac ||| nI 1 <<< (nI (tp - sq) &&& 31))]))) H := hP
        have h_69 := gm_pass (k := as0) (y := .inr (0, [.int a0, .int a1, .int (nI tp), .int a3, .int (ac ||| nI 1 <<< (nI (tp - sq) &&& 31))])) eg (gm_ne eg eas (fun h => by cases h))
        have h_70 := gm_pass (k := as0) (y := .inr (0, [.int a0, .int a1, .int (nI tp), .int a3, .int (ac ||| nI 1 <<< (nI (tp - sq) &&& 31))])) eb (gm_ne eb eas (fun h => by cases h))
        have h_71 := gm_pass (k := as0) (y := .inr (0, [.int a0, .int a1, .int (nI tp), .int a3, .int (ac ||| nI 1 <<< (nI (tp - sq) &&& 31))])) ea (gm_ne ea eas (fun h => by cases h))
        have h_72 := gm_pass (k := as0) (y := .inr (0, [.int a0, .int a1, .int (nI tp), .int a3, .int (ac ||| nI 1 <<< (nI (tp - sq) &&& 31))])) eem (gm_ne eem eas (fun h => by cases h))
        have h_73 := gm_up_self M as0 (.inr (0, [.int a0, .int a1, .int (nI tp), .int a3, .int (ac ||| nI 1 <<< (nI (tp - sq) &&& 31))]))
        have hf_74 : ∀ fi, fi < nr → (gm_up M as0 (.inr (0, [.int a0, .int a1, .int (nI tp), .int a3, .int (ac ||| nI 1 <<< (nI (tp - sq) &&& 31))]))) (ra fi) = some (.inr (5, [.int (nI (ru fi 0)), .int (nI (ru fi 1)), .int (nI (ru fi 2)), .ref (ra fi + 1), .ref (ra fi + 2)])) := fun fi hfi => gm_pass (k := as0) (y := .inr (0, [.int a0, .int a1, .int (nI tp), .int a3, .int (ac ||| nI 1 <<< (nI (tp - sq) &&& 31))])) (hr1 fi hfi) (gm_ne (hr1 fi hfi) eas (fun h => by cases h))
        have hf_75 : ∀ fi, fi < 17 → (gm_up M as0 (.inr (0, [.int a0, .int a1, .int (nI tp), .int a3, .int (ac ||| nI 1 <<< (nI (tp - sq) &&& 31))]))) (ra fi + 1) = some (.inl (ca 0, 3, .inl (iN (lw fi)))) := fun fi hfi => gm_pass (k := as0) (y := .inr (0, [.int a0, .int a1, .int (nI tp), .int a3, .int (ac ||| nI 1 <<< (nI (tp - sq) &&& 31))])) (hr2 fi hfi) (gm_ne (hr2 fi hfi) eas (fun h => by cases h))
        have hf_76 : ∀ fi, fi < 17 → (gm_up M as0 (.inr (0, [.int a0, .int a1, .int (nI tp), .int a3, .int (ac ||| nI 1 <<< (nI (tp - sq) &&& 31))]))) (ra fi + 2) = some (.inl (ca 0, 3, .inl (iN (hw fi)))) := fun fi hfi => gm_pass (k := as0) (y := .inr (0, [.int a0, .int a1, .int (nI tp), .int a3, .int (ac ||| nI 1 <<< (nI (tp - sq) &&& 31))])) (hr3 fi hfi) (gm_ne (hr3 fi hfi) eas (fun h => by cases h))
        refine W.eq (g2 := F0 m 23 ls []) rfl ?_
        refine lv_aload_n hx hb d_Pg_passSealed_23 rfl (lv_at hl 0 rfl) ?_
        refine gm_get (C := R_Pg) (T := F_Pg) (n := 15) hx hb htl i_Pg hown hK hP h_69 rfl 9 (by decide) (htl _ k_206) (fun _ h => h) rfl d_Pg_passSealed_24 ?_
        refine gc_S (n := 1) [.int (nI so)] [] hx hb hml hown hts hK hN hX hP hS (c_Pg_isOutside so (by omega)) k_564 k_565 k_1 k_566 (by decide +kernel) ⟨by decide, by decide⟩ rfl hl.1 rfl (Nat.le_of_ble_eq_true rfl) d_Pg_passSealed_27 ⟨by decide, by decide⟩ (fun r N1 M_77 H locs hw hP hS => ?_)
        obtain ⟨rfl, hw⟩ := hw
        rcases hw with ⟨c_78, rfl, rfl⟩ | ⟨c_79, rfl, rfl⟩
        · skip
          refine W.eq (g2 := F0 m 30 ls [.int (nI 1)]) rfl ?_
          refine lv_if_eq (tgt := 43) hx hb d_Pg_passSealed_30 (by decide) (fun q => absurd q (by decide)) (fun _ => ?_)
          refine lv_aload_n hx hb d_Pg_passSealed_33 rfl (lv_at hl 0 rfl) ?_
          refine gm_get (C := R_Pg) (T := F_Pg) (n := 15) hx hb htl i_Pg hown hK hP h_69 rfl 10 (by decide) (htl _ k_207) (fun _ h => h) rfl d_Pg_passSealed_34 ?_
          refine gc_S (n := 1) [.int (nI ta)] [] hx hb hml hown hts hK hN hX hP hS (c_Pg_isInside ta (by omega)) k_558 k_559 k_1 k_560 (by decide +kernel) ⟨by decide, by decide⟩ rfl hl.1 rfl (Nat.le_of_ble_eq_true rfl) d_Pg_passSealed_37 ⟨by decide, by decide⟩ (fun r N1 M_80 H locs hw hP hS => ?_)
          obtain ⟨rfl, hw⟩ := hw
          rcases hw with ⟨c_81, rfl, rfl⟩ | ⟨c_82, rfl, rfl⟩
          · skip
            refine W.eq (g2 := F0 m 40 ls [.int (nI 1)]) rfl ?_
            refine lv_if_ne (tgt := 46) hx hb d_Pg_passSealed_40 (by decide) (fun _ => ?_) (fun q => absurd q (by decide))
            refine lv_aload_n hx hb d_Pg_passSealed_46 rfl (lv_at hl 0 rfl) ?_
            refine gm_get (C := R_Pg) (T := F_Pg) (n := 15) hx hb htl i_Pg hown hK hP h_69 rfl 2 (by decide) (htl _ k_199) (fun _ h => h) rfl d_Pg_passSealed_47 ?_
            refine lv_iconst (v := nI 0) hx hb d_Pg_passSealed_50 (by decide) ?_
            refine lv_iload hx hb d_Pg_passSealed_51 (lv_at hl 4 rfl) ?_
            refine lv_aload_n hx hb d_Pg_passSealed_53 rfl (lv_at hl 0 rfl) ?_
            refine gm_get (C := R_Pg) (T := F_Pg) (n := 15) hx hb htl i_Pg hown hK hP h_69 rfl 9 (by decide) (htl _ k_206) (fun _ h => h) rfl d_Pg_passSealed_54 ?_
            refine lv_aload_n hx hb d_Pg_passSealed_57 rfl (lv_at hl 0 rfl) ?_
            refine gm_get (C := R_Pg) (T := F_Pg) (n := 15) hx hb htl i_Pg hown hK hP h_69 rfl 10 (by decide) (htl _ k_207) (fun _ h => h) rfl d_Pg_passSealed_58 ?_
            refine gc_V (q := (R_Rb, F_Rb, 2)) (n := 4) [.int (nI 0), .int (nI pr0), .int (nI so), .int (nI ta)] [] hx hb hml hown hts hK hN hX hP hS (c_Rb_policy h_70 h_71 hf_74 hf_75 hf_76 (by omega) hU (by omega) (by omega) (by omega) (by omega)) rfl h_70 k_608 k_609 k_610 k_4 k_611 (by decide +kernel) ⟨by decide, by decide⟩ rfl hl.1 rfl (Nat.le_of_ble_eq_true rfl) d_Pg_passSealed_61 ⟨by decide, by decide⟩ (fun r N1 M_83 H locs hw hP hS => ?_)
            obtain ⟨rfl, hw⟩ := hw
            obtain ⟨av_84, c_85, c_86, rfl, rfl⟩ := hw
            refine W.eq (g2 := F0 m 64 ls [.int (nI av_84)]) rfl ?_
            have hp_87 := pol_F c_85
            refine lv_iconst (v := nI 2) hx hb d_Pg_passSealed_64 (by decide) ?_
            refine ln_eq (tgt := 71) hx hb d_Pg_passSealed_65 (by decide) (by omega) (by omega) (fun c_88 => ?_) (fun c_88 => ?_)
            · skip
              refine lv_aload_n hx hb d_Pg_passSealed_71 rfl (lv_at hl 0 rfl) ?_
              refine lv_aload_n hx hb d_Pg_passSealed_72 rfl (lv_at hl 0 rfl) ?_
              refine gm_get (C := R_Pg) (T := F_Pg) (n := 15) hx hb htl i_Pg hown hK hP h_69 rfl 9 (by decide) (htl _ k_206) (fun _ h => h) rfl d_Pg_passSealed_73 ?_
              refine lv_aload_n hx hb d_Pg_passSealed_76 rfl (lv_at hl 0 rfl) ?_
              refine gm_get (C := R_Pg) (T := F_Pg) (n := 15) hx hb htl i_Pg hown hK hP h_69 rfl 10 (by decide) (htl _ k_207) (fun _ h => h) rfl d_Pg_passSealed_77 ?_
              refine gc_V (q := (R_Pg, F_Pg, 15)) (n := 2) [.int (nI so), .int (nI ta)] [] hx hb hml hown hts hK hN hX hP hS (c_Pg_sendBetween h_69 h_72 (by omega) (by omega)) rfl h_69 k_661 k_663 ks_Pg_sendBetween k_1 k_664 (by decide +kernel) ⟨by decide, by decide⟩ rfl hl.1 rfl (Nat.le_of_ble_eq_true rfl) d_Pg_passSealed_80 ⟨by decide, by decide⟩ (fun r N1 M_89 H locs hw hP hS => ?_)
              obtain ⟨rfl, hw⟩ := hw
              obtain ⟨rfl, rfl⟩ := hw
              have hP : gm_P D cls A N (gm_up (gm_up M as0 (.inr (0, [.int a0, .int a1, .int (nI tp), .int a3, .int (ac ||| nI 1 <<< (nI (tp - sq) &&& 31))]))) (g + 81) (.inl (ca 0, 4, .inl (iN (va_up (va_up (va_up (va_up em 0 (so / 256)) 1 (so % 256)) 2 (ta / 256)) 3 (ta % 256)))))) H := hP
              have h_90 := gm_pass (k := (g + 81)) (y := .inl (ca 0, 4, .inl (iN (va_up (va_up (va_up (va_up em 0 (so / 256)) 1 (so % 256)) 2 (ta / 256)) 3 (ta % 256))))) h_69 (gm_ne h_69 h_72 (fun h => by cases h))
              have h_91 := gm_pass (k := (g + 81)) (y := .inl (ca 0, 4, .inl (iN (va_up (va_up (va_up (va_up em 0 (so / 256)) 1 (so % 256)) 2 (ta / 256)) 3 (ta % 256))))) h_70 (gm_ne h_70 h_72 (fun h => by cases h))
              have h_92 := gm_pass (k := (g + 81)) (y := .inl (ca 0, 4, .inl (iN (va_up (va_up (va_up (va_up em 0 (so / 256)) 1 (so % 256)) 2 (ta / 256)) 3 (ta % 256))))) h_71 (gm_ne h_71 h_72 (fun h => by simp at h))
              have h_93 := gm_pass (k := (g + 81)) (y := .inl (ca 0, 4, .inl (iN (va_up (va_up (va_up (va_up em 0 (so / 256)) 1 (so % 256)) 2 (ta / 256)) 3 (ta % 256))))) h_73 (gm_ne h_73 h_72 (fun h => by cases h))
              have h_94 := gm_up_self (gm_up M as0 (.inr (0, [.int a0, .int a1, .int (nI tp), .int a3, .int (ac ||| nI 1 <<< (nI (tp - sq) &&& 31))]))) (g + 81) (.inl (ca 0, 4, .inl (iN (va_up (va_up (va_up (va_up em 0 (so / 256)) 1 (so % 256)) 2 (ta / 256)) 3 (ta % 256)))))
              have hf_95 : ∀ fi, fi < nr → (gm_up (gm_up M as0 (.inr (0, [.int a0, .int a1, .int (nI tp), .int a3, .int (ac ||| nI 1 <<< (nI (tp - sq) &&& 31))]))) (g + 81) (.inl (ca 0, 4, .inl (iN (va_up (va_up (va_up (va_up em 0 (so / 256)) 1 (so % 256)) 2 (ta / 256)) 3 (ta % 256)))))) (ra fi) = some (.inr (5, [.int (nI (ru fi 0)), .int (nI (ru fi 1)), .int (nI (ru fi 2)), .ref (ra fi + 1), .ref (ra fi + 2)])) := fun fi hfi => gm_pass (k := (g + 81)) (y := .inl (ca 0, 4, .inl (iN (va_up (va_up (va_up (va_up em 0 (so / 256)) 1 (so % 256)) 2 (ta / 256)) 3 (ta % 256))))) (hf_74 fi hfi) (gm_ne (hf_74 fi hfi) h_72 (fun h => by cases h))
              have hf_96 : ∀ fi, fi < 17 → (gm_up (gm_up M as0 (.inr (0, [.int a0, .int a1, .int (nI tp), .int a3, .int (ac ||| nI 1 <<< (nI (tp - sq) &&& 31))]))) (g + 81) (.inl (ca 0, 4, .inl (iN (va_up (va_up (va_up (va_up em 0 (so / 256)) 1 (so % 256)) 2 (ta / 256)) 3 (ta % 256)))))) (ra fi + 1) = some (.inl (ca 0, 3, .inl (iN (lw fi)))) := fun fi hfi => gm_pass (k := (g + 81)) (y := .inl (ca 0, 4, .inl (iN (va_up (va_up (va_up (va_up em 0 (so / 256)) 1 (so % 256)) 2 (ta / 256)) 3 (ta % 256))))) (hf_75 fi hfi) (gm_ne (hf_75 fi hfi) h_72 (fun h => by simp at h))
              have hf_97 : ∀ fi, fi < 17 → (gm_up (gm_up M as0 (.inr (0, [.int a0, .int a1, .int (nI tp), .int a3, .int (ac ||| nI 1 <<< (nI (tp - sq) &&& 31))]))) (g + 81) (.inl (ca 0, 4, .inl (iN (va_up (va_up (va_up (va_up em 0 (so / 256)) 1 (so % 256)) 2 (ta / 256)) 3 (ta % 256)))))) (ra fi + 2) = some (.inl (ca 0, 3, .inl (iN (hw fi)))) := fun fi hfi => gm_pass (k := (g + 81)) (y := .inl (ca 0, 4, .inl (iN (va_up (va_up (va_up (va_up em 0 (so / 256)) 1 (so % 256)) 2 (ta / 256)) 3 (ta % 256))))) (hf_76 fi hfi) (gm_ne (hf_76 fi hfi) h_72 (fun h => by simp at h))
              refine W.eq (g2 := F0 m 83 ls [.int (nI 0)]) rfl ?_
              exact gc_iret hx hb hr hlk hP hS d_Pg_passSealed_83 ⟨rfl, Or.inr (Or.inr ⟨nI 0, (va_up (va_up (va_up (va_up em 0 (so / 256)) 1 (so % 256)) 2 (ta / 256)) 3 (ta % 256)), tp, (ac ||| nI 1 <<< (nI (tp - sq) &&& 31)), (fun h => c_3.elim (fun q => Nat.not_le.mpr q h.1) (fun q => h.2.elim (fun z => Nat.not_le.mpr q.1 z) (fun z => z q.2))), by assumption, (by first | rw [if_pos (by assumption)] | rw [if_neg (by omega)]), (by unfold accB; rw [if_neg (by omega)]), (by unfold seF; rw [if_neg (by omega), hp_87, if_neg (by omega)]; rfl), h_93, h_94, (fun z q0 q1 => (gm_up_ne _ _ q1).trans ((gm_up_ne _ _ q0).trans (rfl))), rfl⟩)⟩
            · skip
              refine lv_bipush (v := (-4)) hx hb d_Pg_passSealed_68 (by decide) ?_
              exact gc_iret hx hb hr hlk hP hS d_Pg_passSealed_70 ⟨rfl, Or.inr (Or.inr ⟨(-4), em, tp, (ac ||| nI 1 <<< (nI (tp - sq) &&& 31)), (fun h => c_3.elim (fun q => Nat.not_le.mpr q h.1) (fun q => h.2.elim (fun z => Nat.not_le.mpr q.1 z) (fun z => z q.2))), by assumption, (by first | rw [if_pos (by assumption)] | rw [if_neg (by omega)]), (by unfold accB; rw [if_neg (by omega)]), (by unfold seF; rw [if_neg (by omega), hp_87, if_pos (by omega)]), h_73, h_72, (fun z q0 q1 => (gm_up_ne _ _ q0).trans (rfl)), rfl⟩)⟩
          · skip
            refine W.eq (g2 := F0 m 40 ls [.int (nI 0)]) rfl ?_
            refine lv_if_ne (tgt := 46) hx hb d_Pg_passSealed_40 (by decide) (fun q => absurd q (by decide)) (fun _ => ?_)
            refine lv_bipush (v := (-5)) hx hb d_Pg_passSealed_43 (by decide) ?_
            exact gc_iret hx hb hr hlk hP hS d_Pg_passSealed_45 ⟨rfl, Or.inr (Or.inr ⟨(-5), em, tp, (ac ||| nI 1 <<< (nI (tp - sq) &&& 31)), (fun h => c_3.elim (fun q => Nat.not_le.mpr q h.1) (fun q => h.2.elim (fun z => Nat.not_le.mpr q.1 z) (fun z => z q.2))), by assumption, (by first | rw [if_pos (by assumption)] | rw [if_neg (by omega)]), (by unfold accB; rw [if_neg (by omega)]), (by unfold seF; rw [if_pos (by omega)]), h_73, h_72, (fun z q0 q1 => (gm_up_ne _ _ q0).trans (rfl)), rfl⟩)⟩
        · skip
          refine W.eq (g2 := F0 m 30 ls [.int (nI 0)]) rfl ?_
          refine lv_if_eq (tgt := 43) hx hb d_Pg_passSealed_30 (by decide) (fun _ => ?_) (fun q => absurd q (by decide))
          refine lv_bipush (v := (-5)) hx hb d_Pg_passSealed_43 (by decide) ?_
          exact gc_iret hx hb hr hlk hP hS d_Pg_passSealed_45 ⟨rfl, Or.inr (Or.inr ⟨(-5), em, tp, (ac ||| nI 1 <<< (nI (tp - sq) &&& 31)), (fun h => c_3.elim (fun q => Nat.not_le.mpr q h.1) (fun q => h.2.elim (fun z => Nat.not_le.mpr q.1 z) (fun z => z q.2))), by assumption, (by first | rw [if_pos (by assumption)] | rw [if_neg (by omega)]), (by unfold accB; rw [if_neg (by omega)]), (by unfold seF; rw [if_pos (by omega)]), h_73, h_72, (fun z q0 q1 => (gm_up_ne _ _ q0).trans (rfl)), rfl⟩)⟩
    · skip
      refine lv_bipush (v := (-9)) hx hb d_Pg_passSealed_15 (by decide) ?_
      exact gc_iret hx hb hr hlk hP hS d_Pg_passSealed_17 ⟨rfl, Or.inr (Or.inl ⟨(fun h => c_3.elim (fun q => Nat.not_le.mpr q h.1) (fun q => h.2.elim (fun z => Nat.not_le.mpr q.1 z) (fun z => z q.2))), by assumption, rfl, rfl⟩)⟩
end C27
