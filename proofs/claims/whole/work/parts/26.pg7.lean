section C26
variable {l : Launch} {D : va_G} {ca : Nat → ClassId} {A : Nat → Prop} {G : gG} {N : Nat} {M : gm_M}

theorem openO_cs {ne : Nat} {pp po pi : Nat → Nat} {nf : Nat} {fl : Nat → Nat → Nat} {em : Nat → Nat} {so ta tm pr f : Nat} {r0 : Int32} {fl1 : Nat → Nat → Nat} {n1 : Nat} {em1 : Nat → Nat} (cs : Nat) (h : openO ne pp po pi nf fl em 0 so ta tm pr f = (r0, fl1, n1, em1, 0)) : openO ne pp po pi nf fl em cs so ta tm pr f = (r0, fl1, n1, em1, cs) := by
  unfold openO at h ⊢
  split at h
  · cases h; rw [if_pos (by assumption)]
  · rw [if_neg (by assumption)]
    split at h
    · cases h; rw [if_pos (by assumption)]
    · rw [if_neg (by assumption)]
      split at h
      · cases h; simp only [*]
      · cases h; simp only [*]
theorem openI_cs {nf : Nat} {fl : Nat → Nat → Nat} {em : Nat → Nat} {so ta tm pr f ins : Nat} {r0 : Int32} {fl1 : Nat → Nat → Nat} {n1 : Nat} {em1 : Nat → Nat} (cs : Nat) (h : openI nf fl em 0 so ta tm pr f ins = (r0, fl1, n1, em1, 0)) : openI nf fl em cs so ta tm pr f ins = (r0, fl1, n1, em1, cs) := by
  unfold openI at h ⊢
  split at h
  · cases h; rw [if_pos (by assumption)]
  · rw [if_neg (by assumption)]
    split at h
    · cases h; rw [if_pos (by assumption)]
    · cases h; rw [if_neg (by assumption)]
/-- a packet from the inside: answer, flows, how many, the emission, the sequence -/
noncomputable def outF (ne : Nat) (pp po pi : Nat → Nat) (nr : Nat) (ru lw hw : Nat → Nat → Nat) (nf : Nat) (fl : Nat → Nat → Nat) (em : Nat → Nat) (cn cs so ta tm pr0 f0 : Nat) : Int32 × (Nat → Nat → Nat) × Nat × (Nat → Nat) × Nat :=
  if ¬ (so / 256 ≤ 127 ∧ (127 < ta / 256 ∧ ta / 256 ≠ 200)) then (-5, fl, nf, em, cs) else match ffP (fun k => fl k 0 = pr0 ∧ fl k 1 = so ∧ fl k 2 = ta) nf with
  | some k => (match flS fl nf k 1 f0 tm with
    | none => (-6, fl, nf, em, cs)
    | some y => (nI 0, y.1, y.2, eUp em 200 (fl k 3) (ta / 256) (ta % 256), cs))
  | none => if polF ru lw hw nr 1 pr0 so ta = 1 then (-4, fl, nf, em, cs) else if polF ru lw hw nr 1 pr0 so ta = 2 then (if cs = 40 then (-11, fl, nf, em, cs) else (nI 1, fl, nf, eUp em 200 cn 250 (cs + 1), cs + 1)) else openO ne pp po pi nf fl em cs so ta tm pr0 f0
/-- a packet from the outside -/
noncomputable def inF (ne : Nat) (pp po pi : Nat → Nat) (nr : Nat) (ru lw hw : Nat → Nat → Nat) (nf : Nat) (fl : Nat → Nat → Nat) (em : Nat → Nat) (cn cs so ta tm pr0 f0 : Nat) : Int32 × (Nat → Nat → Nat) × Nat × (Nat → Nat) × Nat :=
  if ¬ ((127 < so / 256 ∧ so / 256 ≠ 200) ∧ ta / 256 = 200) then (-5, fl, nf, em, cs) else match mpE ne pp po pi nf fl pr0 (ta % 256) with
  | none => (-4, fl, nf, em, cs)
  | some i => (match ffP (fun k => fl k 0 = pr0 ∧ fl k 1 = i ∧ fl k 2 = so) nf with
    | some k => (match flS fl nf k 0 f0 tm with
      | none => (-6, fl, nf, em, cs)
      | some y => (nI 0, y.1, y.2, eUp em (so / 256) (so % 256) (i / 256) (i % 256), cs))
    | none => if ¬ polF ru lw hw nr 0 pr0 so i = 0 then (-4, fl, nf, em, cs) else openI nf fl em cs so ta tm pr0 f0 i)
set_option maxHeartbeats 4000000 in
set_option maxRecDepth 100000 in
theorem c_Pg_openInward {g cu be so ta tm lt nt : Nat} {bp : Int32} {nf : Nat} {fa : Nat → Nat} {em : Nat → Nat} {fl : Nat → Nat → Nat} {pr0 f0 i1 : Nat} (eg : M g = some (.inr (8, [.ref (g + 1), .ref (g + 3), .ref (g + 4), .ref (g + 57), .ref (g + 59), .ref (g + 63), .ref (g + 81), .ref cu, .ref be, .int (nI so), .int (nI ta), .int (nI tm), .int (nI lt), .int (nI nt), .int bp]))) (ef : M (g + 63) = some (.inr (3, [.ref (g + 64), .int (nI nf)]))) (efa : M (g + 64) = some (.inl (ca 3, 16, .inr (.inr (.inr (.inr (oF fa))))))) (eem : M (g + 81) = some (.inl (ca 0, 4, .inl (iN em)))) (hf : ∀ fi, fi < 16 → M (fa fi) = some (.inr (2, [.int (nI (fl fi 0)), .int (nI (fl fi 1)), .int (nI (fl fi 2)), .int (nI (fl fi 3)), .int (nI (fl fi 4)), .int (nI (fl fi 5)), .int (nI (fl fi 6)), .int (nI (fl fi 7))]))) (hnf : nf ≤ 16) (hA : okA (g + 65) fa) (hF : okF fl) (hso : so < 65536) (hta : ta < 65536) (htm : tm < 600000) (hpr0 : pr0 ≤ 2) (hf0 : f0 ≤ 15) (hi1 : i1 < 65536) : gC l D ca A G y_Pg_openInward (.code y_Pg_openInward b_Pg_openInward 4 (some .int)) ({ frames := 2, cells := 0, slots := 0, locals := 46 }) N M [.ref g, .int (nI pr0), .int (nI f0), .int (nI i1)] gm_i (fun (r : Int32) (N1 : Nat) (M1 : gm_M) => N = N1 ∧ ∃ (r0 : Int32) (fl1 : Nat → Nat → Nat) (n1 : Nat) (em1 : Nat → Nat), (openI nf fl em 0 so ta tm pr0 f0 i1 = (r0, fl1, n1, em1, 0)) ∧ (n1 ≤ 16) ∧ (okF fl1) ∧ M1 (g + 63) = some (.inr (3, [.ref (g + 64), .int (nI n1)])) ∧ M1 (g + 81) = some (.inl (ca 0, 4, .inl (iN em1))) ∧ (∀ fi, fi < 16 → M1 (fa fi) = some (.inr (2, [.int (nI (fl1 fi 0)), .int (nI (fl1 fi 1)), .int (nI (fl1 fi 2)), .int (nI (fl1 fi 3)), .int (nI (fl1 fi 4)), .int (nI (fl1 fi 5)), .int (nI (fl1 fi 6)), .int (nI (fl1 fi 7))]))) ∧ (∀ z, z ≠ (g + 63) → z ≠ (g + 81) → ¬ ((g + 65) ≤ z ∧ z < (g + 65) + 16) → M1 z = M z) ∧ r0 = r) := by
  refine gm_body (by decide) (Nat.le_of_ble_eq_true rfl) (fun p e s m below meth c ls hx hb hr hts hown hlk hml hnm hP hK hN hX hS hl => ?_)
  have htl : ∀ w ∈ LW, w.before _ s = true := fun w h => hts w (List.mem_cons_of_mem _ h)
  have hown : s.vm.findClass "PacketGate" = some m.cls := hown
  have hl : lv_has ls 4 [(0, .ref g), (1, .int (nI pr0)), (2, .int (nI f0)), (3, .int (nI i1))] := hl
  have hfb : ∀ i q, fl i q < 1000000 := fun i q => (hF i).1 q
  refine lv_iload_n hx hb d_Pg_openInward_0 rfl (lv_at hl 1 rfl) ?_
  refine lv_iload_n hx hb d_Pg_openInward_1 rfl (lv_at hl 2 rfl) ?_
  refine gc_S (n := 2) [.int (nI pr0), .int (nI f0)] [] hx hb hml hown hts hK hN hX hP hS (c_Fl_canBegin pr0 f0 (by omega) (by omega)) k_630 k_631 k_8 k_632 (by decide +kernel) ⟨by decide, by decide⟩ rfl hl.1 rfl (Nat.le_of_ble_eq_true rfl) d_Pg_openInward_2 ⟨by decide, by decide⟩ (fun r N1 M_1 H locs hw hP hS => ?_)
  obtain ⟨rfl, hw⟩ := hw
  rcases hw with ⟨c_2, rfl, rfl⟩ | ⟨c_3, rfl, rfl⟩
  · skip
    refine W.eq (g2 := F0 m 5 ls [.int (nI 1)]) rfl ?_
    refine lv_if_ne (tgt := 11) hx hb d_Pg_openInward_5 (by decide) (fun _ => ?_) (fun q => absurd q (by decide))
    refine lv_aload_n hx hb d_Pg_openInward_11 rfl (lv_at hl 0 rfl) ?_
    refine gm_get (C := R_Pg) (T := F_Pg) (n := 15) hx hb htl i_Pg hown hK hP eg rfl 5 (by decide) (htl _ k_202) (fun _ h => h) rfl d_Pg_openInward_12 ?_
    refine gc_V (q := (R_Ft, F_Ft, 2)) (n := 0) [] [] hx hb hml hown hts hK hN hX hP hS (c_Ft_isFull ef efa hf (by omega) hA hF) rfl ef k_633 k_634 k_635 k_7 k_636 (by decide +kernel) ⟨by decide, by decide⟩ rfl hl.1 rfl (Nat.le_of_ble_eq_true rfl) d_Pg_openInward_15 ⟨by decide, by decide⟩ (fun r N1 M_4 H locs hw hP hS => ?_)
    obtain ⟨rfl, hw⟩ := hw
    rcases hw with ⟨c_5, rfl, rfl⟩ | ⟨c_6, rfl, rfl⟩
    · skip
      refine W.eq (g2 := F0 m 18 ls [.int (nI 1)]) rfl ?_
      refine lv_if_eq (tgt := 24) hx hb d_Pg_openInward_18 (by decide) (fun q => absurd q (by decide)) (fun _ => ?_)
      refine lv_bipush (v := (-7)) hx hb d_Pg_openInward_21 (by decide) ?_
      exact gc_iret hx hb hr hlk hP hS d_Pg_openInward_23 ⟨rfl, (-7), fl, nf, em, (by unfold openI; rw [if_neg (by omega), if_pos (by assumption)]), hnf, hF, ef, eem, hf, (fun z q0 q1 qr => rfl), rfl⟩
    · skip
      refine W.eq (g2 := F0 m 18 ls [.int (nI 0)]) rfl ?_
      refine lv_if_eq (tgt := 24) hx hb d_Pg_openInward_18 (by decide) (fun _ => ?_) (fun q => absurd q (by decide))
      refine lv_aload_n hx hb d_Pg_openInward_24 rfl (lv_at hl 0 rfl) ?_
      refine gm_get (C := R_Pg) (T := F_Pg) (n := 15) hx hb htl i_Pg hown hK hP eg rfl 5 (by decide) (htl _ k_202) (fun _ h => h) rfl d_Pg_openInward_25 ?_
      refine gc_V (q := (R_Ft, F_Ft, 2)) (n := 0) [] [] hx hb hml hown hts hK hN hX hP hS (c_Ft_addSpare ef efa hf (by omega) hA hF (by omega)) rfl ef k_641 k_642 k_643 k_7 k_644 (by decide +kernel) ⟨by decide, by decide⟩ rfl hl.1 rfl (Nat.le_of_ble_eq_true rfl) d_Pg_openInward_28 ⟨by decide, by decide⟩ (fun r N1 M_7 H locs hw hP hS => ?_)
      obtain ⟨rfl, hw⟩ := hw
      obtain ⟨rfl, rfl⟩ := hw
      have hP : gm_P D cls A N (gm_up M (g + 63) (.inr (3, [.ref (g + 64), .int (nI (nf + 1))]))) H := hP
      have h_8 := gm_pass (k := (g + 63)) (y := .inr (3, [.ref (g + 64), .int (nI (nf + 1))])) eg (gm_ne eg ef (fun h => by cases h))
      have h_9 := gm_pass (k := (g + 63)) (y := .inr (3, [.ref (g + 64), .int (nI (nf + 1))])) efa (gm_ne efa ef (fun h => by cases h))
      have h_10 := gm_pass (k := (g + 63)) (y := .inr (3, [.ref (g + 64), .int (nI (nf + 1))])) eem (gm_ne eem ef (fun h => by cases h))
      have h_11 := gm_up_self M (g + 63) (.inr (3, [.ref (g + 64), .int (nI (nf + 1))]))
      have hf_12 : ∀ fi, fi < 16 → (gm_up M (g + 63) (.inr (3, [.ref (g + 64), .int (nI (nf + 1))]))) (fa fi) = some (.inr (2, [.int (nI (fl fi 0)), .int (nI (fl fi 1)), .int (nI (fl fi 2)), .int (nI (fl fi 3)), .int (nI (fl fi 4)), .int (nI (fl fi 5)), .int (nI (fl fi 6)), .int (nI (fl fi 7))])) := fun fi hfi => gm_pass (k := (g + 63)) (y := .inr (3, [.ref (g + 64), .int (nI (nf + 1))])) (hf fi hfi) (gm_ne (hf fi hfi) ef (fun h => by cases h))
      refine W.eq (g2 := F0 m 31 ls [.ref (fa nf)]) rfl ?_
      refine lv_iload_n hx hb d_Pg_openInward_31 rfl (lv_at hl 1 rfl) ?_
      refine lv_iload_n hx hb d_Pg_openInward_32 rfl (lv_at hl 3 rfl) ?_
      refine lv_aload_n hx hb d_Pg_openInward_33 rfl (lv_at hl 0 rfl) ?_
      refine gm_get (C := R_Pg) (T := F_Pg) (n := 15) hx hb htl i_Pg hown hK hP h_8 rfl 9 (by decide) (htl _ k_206) (fun _ h => h) rfl d_Pg_openInward_34 ?_
      refine lv_aload_n hx hb d_Pg_openInward_37 rfl (lv_at hl 0 rfl) ?_
      refine gm_get (C := R_Pg) (T := F_Pg) (n := 15) hx hb htl i_Pg hown hK hP h_8 rfl 10 (by decide) (htl _ k_207) (fun _ h => h) rfl d_Pg_openInward_38 ?_
      refine gc_S (n := 1) [.int (nI ta)] [.int (nI so), .int (nI i1), .int (nI pr0), .ref (fa nf)] hx hb hml hown hts hK hN hX hP hS (c_Pg_portOf ta (by omega)) k_601 k_602 k_1 k_603 (by decide +kernel) ⟨by decide, by decide⟩ rfl hl.1 rfl (Nat.le_of_ble_eq_true rfl) d_Pg_openInward_41 ⟨by decide, by decide⟩ (fun r N1 M_13 H locs hw hP hS => ?_)
      obtain ⟨rfl, hw⟩ := hw
      obtain ⟨rfl, rfl⟩ := hw
      refine W.eq (g2 := F0 m 44 ls [.int (nI (ta % 256)), .int (nI so), .int (nI i1), .int (nI pr0), .ref (fa nf)]) rfl ?_
      refine lv_iconst (v := nI 0) hx hb d_Pg_openInward_44 (by decide) ?_
      refine lv_aload_n hx hb d_Pg_openInward_45 rfl (lv_at hl 0 rfl) ?_
      refine gm_get (C := R_Pg) (T := F_Pg) (n := 15) hx hb htl i_Pg hown hK hP h_8 rfl 11 (by decide) (htl _ k_208) (fun _ h => h) rfl d_Pg_openInward_46 ?_
      refine gc_V (q := (R_Fl, F_Fl, 8)) (n := 6) [.int (nI pr0), .int (nI i1), .int (nI so), .int (nI (ta % 256)), .int (nI 0), .int (nI tm)] [] hx hb hml hown hts hK hN hX hP hS (c_Fl_begin (hf_12 nf (by omega)) (by omega) (by omega)) rfl (hf_12 nf (by omega)) k_645 k_646 k_647 k_8 k_648 (by decide +kernel) ⟨by decide, by decide⟩ rfl hl.1 rfl (Nat.le_of_ble_eq_true rfl) d_Pg_openInward_49 ⟨by decide, by decide⟩ (fun r N1 M_14 H locs hw hP hS => ?_)
      obtain ⟨rfl, hw⟩ := hw
      rcases hw with ⟨c_15, rfl⟩ | ⟨c_16, rfl⟩
      · skip
        have hP : gm_P D cls A N (gm_up (gm_up M (g + 63) (.inr (3, [.ref (g + 64), .int (nI (nf + 1))]))) (fa nf) (.inr (2, [.int (nI pr0), .int (nI i1), .int (nI so), .int (nI (ta % 256)), .int (nI 1), .int (nI tm), .int (nI 0), .int (nI 0)]))) H := hP
        have h_17 := gm_pass (k := (fa nf)) (y := .inr (2, [.int (nI pr0), .int (nI i1), .int (nI so), .int (nI (ta % 256)), .int (nI 1), .int (nI tm), .int (nI 0), .int (nI 0)])) h_8 (gm_ne h_8 (hf_12 nf (by omega)) (fun h => by cases h))
        have h_18 := gm_pass (k := (fa nf)) (y := .inr (2, [.int (nI pr0), .int (nI i1), .int (nI so), .int (nI (ta % 256)), .int (nI 1), .int (nI tm), .int (nI 0), .int (nI 0)])) h_9 (gm_ne h_9 (hf_12 nf (by omega)) (fun h => by cases h))
        have h_19 := gm_pass (k := (fa nf)) (y := .inr (2, [.int (nI pr0), .int (nI i1), .int (nI so), .int (nI (ta % 256)), .int (nI 1), .int (nI tm), .int (nI 0), .int (nI 0)])) h_10 (gm_ne h_10 (hf_12 nf (by omega)) (fun h => by cases h))
        have h_20 := gm_pass (k := (fa nf)) (y := .inr (2, [.int (nI pr0), .int (nI i1), .int (nI so), .int (nI (ta % 256)), .int (nI 1), .int (nI tm), .int (nI 0), .int (nI 0)])) h_11 (gm_ne h_11 (hf_12 nf (by omega)) (fun h => by cases h))
        have h_21 := gm_up_self (gm_up M (g + 63) (.inr (3, [.ref (g + 64), .int (nI (nf + 1))]))) (fa nf) (.inr (2, [.int (nI pr0), .int (nI i1), .int (nI so), .int (nI (ta % 256)), .int (nI 1), .int (nI tm), .int (nI 0), .int (nI 0)]))
        have hf_22 : ∀ fi, fi < 16 → (gm_up (gm_up M (g + 63) (.inr (3, [.ref (g + 64), .int (nI (nf + 1))]))) (fa nf) (.inr (2, [.int (nI pr0), .int (nI i1), .int (nI so), .int (nI (ta % 256)), .int (nI 1), .int (nI tm), .int (nI 0), .int (nI 0)]))) (fa fi) = some (.inr (2, [.int (nI ((newF fl nf pr0 i1 so (ta % 256) 0 tm) fi 0)), .int (nI ((newF fl nf pr0 i1 so (ta % 256) 0 tm) fi 1)), .int (nI ((newF fl nf pr0 i1 so (ta % 256) 0 tm) fi 2)), .int (nI ((newF fl nf pr0 i1 so (ta % 256) 0 tm) fi 3)), .int (nI ((newF fl nf pr0 i1 so (ta % 256) 0 tm) fi 4)), .int (nI ((newF fl nf pr0 i1 so (ta % 256) 0 tm) fi 5)), .int (nI ((newF fl nf pr0 i1 so (ta % 256) 0 tm) fi 6)), .int (nI ((newF fl nf pr0 i1 so (ta % 256) 0 tm) fi 7))])) := fun fi hfi => by
          by_cases q : fi = nf
          · subst q; rw [newF_self0 c_15]; exact gm_up_self _ _ _
          · rw [newF_ne q]; exact (gm_pass (hf_12 fi hfi) (fun z => q (hA.2 fi nf hfi (by omega) z)))
        refine W.eq (g2 := F0 m 52 ls []) rfl ?_
        refine lv_aload_n hx hb d_Pg_openInward_52 rfl (lv_at hl 0 rfl) ?_
        refine lv_aload_n hx hb d_Pg_openInward_53 rfl (lv_at hl 0 rfl) ?_
        refine gm_get (C := R_Pg) (T := F_Pg) (n := 15) hx hb htl i_Pg hown hK hP h_17 rfl 9 (by decide) (htl _ k_206) (fun _ h => h) rfl d_Pg_openInward_54 ?_
        refine lv_iload_n hx hb d_Pg_openInward_57 rfl (lv_at hl 3 rfl) ?_
        refine gc_V (q := (R_Pg, F_Pg, 15)) (n := 2) [.int (nI so), .int (nI i1)] [] hx hb hml hown hts hK hN hX hP hS (c_Pg_sendBetween h_17 h_19 (by omega) (by omega)) rfl h_17 k_661 k_663 ks_Pg_sendBetween k_1 k_664 (by decide +kernel) ⟨by decide, by decide⟩ rfl hl.1 rfl (Nat.le_of_ble_eq_true rfl) d_Pg_openInward_58 ⟨by decide, by decide⟩ (fun r N1 M_23 H locs hw hP hS => ?_)
        obtain ⟨rfl, hw⟩ := hw
        obtain ⟨rfl, rfl⟩ := hw
        have hP : gm_P D cls A N (gm_up (gm_up (gm_up M (g + 63) (.inr (3, [.ref (g + 64), .int (nI (nf + 1))]))) (fa nf) (.inr (2, [.int (nI pr0), .int (nI i1), .int (nI so), .int (nI (ta % 256)), .int (nI 1), .int (nI tm), .int (nI 0), .int (nI 0)]))) (g + 81) (.inl (ca 0, 4, .inl (iN (va_up (va_up (va_up (va_up em 0 (so / 256)) 1 (so % 256)) 2 (i1 / 256)) 3 (i1 % 256)))))) H := hP
        have h_24 := gm_pass (k := (g + 81)) (y := .inl (ca 0, 4, .inl (iN (va_up (va_up (va_up (va_up em 0 (so / 256)) 1 (so % 256)) 2 (i1 / 256)) 3 (i1 % 256))))) h_17 (gm_ne h_17 h_19 (fun h => by cases h))
        have h_25 := gm_pass (k := (g + 81)) (y := .inl (ca 0, 4, .inl (iN (va_up (va_up (va_up (va_up em 0 (so / 256)) 1 (so % 256)) 2 (i1 / 256)) 3 (i1 % 256))))) h_18 (gm_ne h_18 h_19 (fun h => by simp at h))
        have h_26 := gm_pass (k := (g + 81)) (y := .inl (ca 0, 4, .inl (iN (va_up (va_up (va_up (va_up em 0 (so / 256)) 1 (so % 256)) 2 (i1 / 256)) 3 (i1 % 256))))) h_20 (gm_ne h_20 h_19 (fun h => by cases h))
        have h_27 := gm_pass (k := (g + 81)) (y := .inl (ca 0, 4, .inl (iN (va_up (va_up (va_up (va_up em 0 (so / 256)) 1 (so % 256)) 2 (i1 / 256)) 3 (i1 % 256))))) h_21 (gm_ne h_21 h_19 (fun h => by cases h))
        have h_28 := gm_up_self (gm_up (gm_up M (g + 63) (.inr (3, [.ref (g + 64), .int (nI (nf + 1))]))) (fa nf) (.inr (2, [.int (nI pr0), .int (nI i1), .int (nI so), .int (nI (ta % 256)), .int (nI 1), .int (nI tm), .int (nI 0), .int (nI 0)]))) (g + 81) (.inl (ca 0, 4, .inl (iN (va_up (va_up (va_up (va_up em 0 (so / 256)) 1 (so % 256)) 2 (i1 / 256)) 3 (i1 % 256)))))
        have hf_29 : ∀ fi, fi < 16 → (gm_up (gm_up (gm_up M (g + 63) (.inr (3, [.ref (g + 64), .int (nI (nf + 1))]))) (fa nf) (.inr (2, [.int (nI pr0), .int (nI i1), .int (nI so), .int (nI (ta % 256)), .int (nI 1), .int (nI tm), .int (nI 0), .int (nI 0)]))) (g + 81) (.inl (ca 0, 4, .inl (iN (va_up (va_up (va_up (va_up em 0 (so / 256)) 1 (so % 256)) 2 (i1 / 256)) 3 (i1 % 256)))))) (fa fi) = some (.inr (2, [.int (nI ((newF fl nf pr0 i1 so (ta % 256) 0 tm) fi 0)), .int (nI ((newF fl nf pr0 i1 so (ta % 256) 0 tm) fi 1)), .int (nI ((newF fl nf pr0 i1 so (ta % 256) 0 tm) fi 2)), .int (nI ((newF fl nf pr0 i1 so (ta % 256) 0 tm) fi 3)), .int (nI ((newF fl nf pr0 i1 so (ta % 256) 0 tm) fi 4)), .int (nI ((newF fl nf pr0 i1 so (ta % 256) 0 tm) fi 5)), .int (nI ((newF fl nf pr0 i1 so (ta % 256) 0 tm) fi 6)), .int (nI ((newF fl nf pr0 i1 so (ta % 256) 0 tm) fi 7))])) := fun fi hfi => gm_pass (k := (g + 81)) (y := .inl (ca 0, 4, .inl (iN (va_up (va_up (va_up (va_up em 0 (so / 256)) 1 (so % 256)) 2 (i1 / 256)) 3 (i1 % 256))))) (hf_22 fi hfi) (gm_ne (hf_22 fi hfi) h_19 (fun h => by cases h))
        refine W.eq (g2 := F0 m 61 ls [.int (nI 0)]) rfl ?_
        exact gc_iret hx hb hr hlk hP hS d_Pg_openInward_61 ⟨rfl, nI 0, _, _, _, (by unfold openI; rw [if_neg (by omega), if_neg (by omega)]; rfl), (by omega), okF_new hF (by omega) (by omega) hso (by omega) (by decide) (by omega), h_26, h_28, hf_29, (fun z q0 q1 qr => (gm_up_ne _ _ q1).trans ((gm_up_ne _ _ (fun q => qr (by rw [q]; exact hA.1 nf (by omega)))).trans ((gm_up_ne _ _ q0).trans (rfl)))), rfl⟩
      · skip
        have hP : gm_P D cls A N (gm_up (gm_up M (g + 63) (.inr (3, [.ref (g + 64), .int (nI (nf + 1))]))) (fa nf) (.inr (2, [.int (nI pr0), .int (nI i1), .int (nI so), .int (nI (ta % 256)), .int (nI 6), .int (nI tm), .int (nI 0), .int (nI 0)]))) H := hP
        have h_30 := gm_pass (k := (fa nf)) (y := .inr (2, [.int (nI pr0), .int (nI i1), .int (nI so), .int (nI (ta % 256)), .int (nI 6), .int (nI tm), .int (nI 0), .int (nI 0)])) h_8 (gm_ne h_8 (hf_12 nf (by omega)) (fun h => by cases h))
        have h_31 := gm_pass (k := (fa nf)) (y := .inr (2, [.int (nI pr0), .int (nI i1), .int (nI so), .int (nI (ta % 256)), .int (nI 6), .int (nI tm), .int (nI 0), .int (nI 0)])) h_9 (gm_ne h_9 (hf_12 nf (by omega)) (fun h => by cases h))
        have h_32 := gm_pass (k := (fa nf)) (y := .inr (2, [.int (nI pr0), .int (nI i1), .int (nI so), .int (nI (ta % 256)), .int (nI 6), .int (nI tm), .int (nI 0), .int (nI 0)])) h_10 (gm_ne h_10 (hf_12 nf (by omega)) (fun h => by cases h))
        have h_33 := gm_pass (k := (fa nf)) (y := .inr (2, [.int (nI pr0), .int (nI i1), .int (nI so), .int (nI (ta % 256)), .int (nI 6), .int (nI tm), .int (nI 0), .int (nI 0)])) h_11 (gm_ne h_11 (hf_12 nf (by omega)) (fun h => by cases h))
        have h_34 := gm_up_self (gm_up M (g + 63) (.inr (3, [.ref (g + 64), .int (nI (nf + 1))]))) (fa nf) (.inr (2, [.int (nI pr0), .int (nI i1), .int (nI so), .int (nI (ta % 256)), .int (nI 6), .int (nI tm), .int (nI 0), .int (nI 0)]))
        have hf_35 : ∀ fi, fi < 16 → (gm_up (gm_up M (g + 63) (.inr (3, [.ref (g + 64), .int (nI (nf + 1))]))) (fa nf) (.inr (2, [.int (nI pr0), .int (nI i1), .int (nI so), .int (nI (ta % 256)), .int (nI 6), .int (nI tm), .int (nI 0), .int (nI 0)]))) (fa fi) = some (.inr (2, [.int (nI ((newF fl nf pr0 i1 so (ta % 256) 0 tm) fi 0)), .int (nI ((newF fl nf pr0 i1 so (ta % 256) 0 tm) fi 1)), .int (nI ((newF fl nf pr0 i1 so (ta % 256) 0 tm) fi 2)), .int (nI ((newF fl nf pr0 i1 so (ta % 256) 0 tm) fi 3)), .int (nI ((newF fl nf pr0 i1 so (ta % 256) 0 tm) fi 4)), .int (nI ((newF fl nf pr0 i1 so (ta % 256) 0 tm) fi 5)), .int (nI ((newF fl nf pr0 i1 so (ta % 256) 0 tm) fi 6)), .int (nI ((newF fl nf pr0 i1 so (ta % 256) 0 tm) fi 7))])) := fun fi hfi => by
          by_cases q : fi = nf
          · subst q; rw [newF_self6 c_16]; exact gm_up_self _ _ _
          · rw [newF_ne q]; exact (gm_pass (hf_12 fi hfi) (fun z => q (hA.2 fi nf hfi (by omega) z)))
        refine W.eq (g2 := F0 m 52 ls []) rfl ?_
        refine lv_aload_n hx hb d_Pg_openInward_52 rfl (lv_at hl 0 rfl) ?_
        refine lv_aload_n hx hb d_Pg_openInward_53 rfl (lv_at hl 0 rfl) ?_
        refine gm_get (C := R_Pg) (T := F_Pg) (n := 15) hx hb htl i_Pg hown hK hP h_30 rfl 9 (by decide) (htl _ k_206) (fun _ h => h) rfl d_Pg_openInward_54 ?_
        refine lv_iload_n hx hb d_Pg_openInward_57 rfl (lv_at hl 3 rfl) ?_
        refine gc_V (q := (R_Pg, F_Pg, 15)) (n := 2) [.int (nI so), .int (nI i1)] [] hx hb hml hown hts hK hN hX hP hS (c_Pg_sendBetween h_30 h_32 (by omega) (by omega)) rfl h_30 k_661 k_663 ks_Pg_sendBetween k_1 k_664 (by decide +kernel) ⟨by decide, by decide⟩ rfl hl.1 rfl (Nat.le_of_ble_eq_true rfl) d_Pg_openInward_58 ⟨by decide, by decide⟩ (fun r N1 M_36 H locs hw hP hS => ?_)
        obtain ⟨rfl, hw⟩ := hw
        obtain ⟨rfl, rfl⟩ := hw
        have hP : gm_P D cls A N (gm_up (gm_up (gm_up M (g + 63) (.inr (3, [.ref (g + 64), .int (nI (nf + 1))]))) (fa nf) (.inr (2, [.int (nI pr0), .int (nI i1), .int (nI so), .int (nI (ta % 256)), .int (nI 6), .int (nI tm), .int (nI 0), .int (nI 0)]))) (g + 81) (.inl (ca 0, 4, .inl (iN (va_up (va_up (va_up (va_up em 0 (so / 256)) 1 (so % 256)) 2 (i1 / 256)) 3 (i1 % 256)))))) H := hP
        have h_37 := gm_pass (k := (g + 81)) (y := .inl (ca 0, 4, .inl (iN (va_up (va_up (va_up (va_up em 0 (so / 256)) 1 (so % 256)) 2 (i1 / 256)) 3 (i1 % 256))))) h_30 (gm_ne h_30 h_32 (fun h => by cases h))
        have h_38 := gm_pass (k := (g + 81)) (y := .inl (ca 0, 4, .inl (iN (va_up (va_up (va_up (va_up em 0 (so / 256)) 1 (so % 256)) 2 (i1 / 256)) 3 (i1 % 256))))) h_31 (gm_ne h_31 h_32 (fun h => by simp at h))
        have h_39 := gm_pass (k := (g + 81)) (y := .inl (ca 0, 4, .inl (iN (va_up (va_up (va_up (va_up em 0 (so / 256)) 1 (so % 256)) 2 (i1 / 256)) 3 (i1 % 256))))) h_33 (gm_ne h_33 h_32 (fun h => by cases h))
        have h_40 := gm_pass (k := (g + 81)) (y := .inl (ca 0, 4, .inl (iN (va_up (va_up (va_up (va_up em 0 (so / 256)) 1 (so % 256)) 2 (i1 / 256)) 3 (i1 % 256))))) h_34 (gm_ne h_34 h_32 (fun h => by cases h))
        have h_41 := gm_up_self (gm_up (gm_up M (g + 63) (.inr (3, [.ref (g + 64), .int (nI (nf + 1))]))) (fa nf) (.inr (2, [.int (nI pr0), .int (nI i1), .int (nI so), .int (nI (ta % 256)), .int (nI 6), .int (nI tm), .int (nI 0), .int (nI 0)]))) (g + 81) (.inl (ca 0, 4, .inl (iN (va_up (va_up (va_up (va_up em 0 (so / 256)) 1 (so % 256)) 2 (i1 / 256)) 3 (i1 % 256)))))
        have hf_42 : ∀ fi, fi < 16 → (gm_up (gm_up (gm_up M (g + 63) (.inr (3, [.ref (g + 64), .int (nI (nf + 1))]))) (fa nf) (.inr (2, [.int (nI pr0), .int (nI i1), .int (nI so), .int (nI (ta % 256)), .int (nI 6), .int (nI tm), .int (nI 0), .int (nI 0)]))) (g + 81) (.inl (ca 0, 4, .inl (iN (va_up (va_up (va_up (va_up em 0 (so / 256)) 1 (so % 256)) 2 (i1 / 256)) 3 (i1 % 256)))))) (fa fi) = some (.inr (2, [.int (nI ((newF fl nf pr0 i1 so (ta % 256) 0 tm) fi 0)), .int (nI ((newF fl nf pr0 i1 so (ta % 256) 0 tm) fi 1)), .int (nI ((newF fl nf pr0 i1 so (ta % 256) 0 tm) fi 2)), .int (nI ((newF fl nf pr0 i1 so (ta % 256) 0 tm) fi 3)), .int (nI ((newF fl nf pr0 i1 so (ta % 256) 0 tm) fi 4)), .int (nI ((newF fl nf pr0 i1 so (ta % 256) 0 tm) fi 5)), .int (nI ((newF fl nf pr0 i1 so (ta % 256) 0 tm) fi 6)), .int (nI ((newF fl nf pr0 i1 so (ta % 256) 0 tm) fi 7))])) := fun fi hfi => gm_pass (k := (g + 81)) (y := .inl (ca 0, 4, .inl (iN (va_up (va_up (va_up (va_up em 0 (so / 256)) 1 (so % 256)) 2 (i1 / 256)) 3 (i1 % 256))))) (hf_35 fi hfi) (gm_ne (hf_35 fi hfi) h_32 (fun h => by cases h))
        refine W.eq (g2 := F0 m 61 ls [.int (nI 0)]) rfl ?_
        exact gc_iret hx hb hr hlk hP hS d_Pg_openInward_61 ⟨rfl, nI 0, _, _, _, (by unfold openI; rw [if_neg (by omega), if_neg (by omega)]; rfl), (by omega), okF_new hF (by omega) (by omega) hso (by omega) (by decide) (by omega), h_39, h_41, hf_42, (fun z q0 q1 qr => (gm_up_ne _ _ q1).trans ((gm_up_ne _ _ (fun q => qr (by rw [q]; exact hA.1 nf (by omega)))).trans ((gm_up_ne _ _ q0).trans (rfl)))), rfl⟩
  · skip
    refine W.eq (g2 := F0 m 5 ls [.int (nI 0)]) rfl ?_
    refine lv_if_ne (tgt := 11) hx hb d_Pg_openInward_5 (by decide) (fun q => absurd q (by decide)) (fun _ => ?_)
    refine lv_bipush (v := (-6)) hx hb d_Pg_openInward_8 (by decide) ?_
    exact gc_iret hx hb hr hlk hP hS d_Pg_openInward_10 ⟨rfl, (-6), fl, nf, em, (by unfold openI; rw [if_pos (by assumption)]), hnf, hF, ef, eem, hf, (fun z q0 q1 qr => rfl), rfl⟩
set_option maxHeartbeats 4000000 in
set_option maxRecDepth 100000 in
theorem c_Pg_passOutward {g cu be so ta tm lt nt : Nat} {bp : Int32} {nr : Nat} {ra : Nat → Nat} {ne : Nat} {pp : Nat → Nat} {po : Nat → Nat} {pi : Nat → Nat} {nf : Nat} {fa : Nat → Nat} {em : Nat → Nat} {cn cs ct ce : Nat} {cb : Int32} {fl : Nat → Nat → Nat} {ru lw hw : Nat → Nat → Nat} {pr0 f0 : Nat} (eg : M g = some (.inr (8, [.ref (g + 1), .ref (g + 3), .ref (g + 4), .ref (g + 57), .ref (g + 59), .ref (g + 63), .ref (g + 81), .ref cu, .ref be, .int (nI so), .int (nI ta), .int (nI tm), .int (nI lt), .int (nI nt), .int bp]))) (eb : M (g + 4) = some (.inr (6, [.ref (g + 5), .int (nI nr)]))) (ea : M (g + 5) = some (.inl (ca 2, 17, .inr (.inr (.inr (.inr (oF ra))))))) (ex0 : M (g + 59) = some (.inr (1, [.ref (g + 60), .ref (g + 61), .ref (g + 62), .int (nI ne)]))) (ex1 : M (g + 60) = some (.inl (ca 0, 4, .inl (iN pp)))) (ex2 : M (g + 61) = some (.inl (ca 0, 4, .inl (iN po)))) (ex3 : M (g + 62) = some (.inl (ca 0, 4, .inl (iN pi)))) (ef : M (g + 63) = some (.inr (3, [.ref (g + 64), .int (nI nf)]))) (efa : M (g + 64) = some (.inl (ca 3, 16, .inr (.inr (.inr (.inr (oF fa))))))) (eem : M (g + 81) = some (.inl (ca 0, 4, .inl (iN em)))) (ecu : M cu = some (.inr (0, [.int (nI cn), .int (nI cs), .int (nI ct), .int (nI ce), .int cb]))) (hne : ne ≤ 4) (hpp : ∀ k, pp k < 65536) (hpo : ∀ k, po k < 65536) (hpi : ∀ k, pi k < 65536) (hf : ∀ fi, fi < 16 → M (fa fi) = some (.inr (2, [.int (nI (fl fi 0)), .int (nI (fl fi 1)), .int (nI (fl fi 2)), .int (nI (fl fi 3)), .int (nI (fl fi 4)), .int (nI (fl fi 5)), .int (nI (fl fi 6)), .int (nI (fl fi 7))]))) (hnf : nf ≤ 16) (hA : okA (g + 65) fa) (hF : okF fl) (hr1 : ∀ fi, fi < nr → M (ra fi) = some (.inr (5, [.int (nI (ru fi 0)), .int (nI (ru fi 1)), .int (nI (ru fi 2)), .ref (ra fi + 1), .ref (ra fi + 2)]))) (hr2 : ∀ fi, fi < 17 → M (ra fi + 1) = some (.inl (ca 0, 3, .inl (iN (lw fi))))) (hr3 : ∀ fi, fi < 17 → M (ra fi + 2) = some (.inl (ca 0, 3, .inl (iN (hw fi))))) (hnr : nr ≤ 16) (hR : okR (g + 6) ra) (hU : okU nr ru lw hw) (hso : so < 65536) (hta : ta < 65536) (htm : tm < 600000) (hcu : g + 82 ≤ cu ∧ cu ≤ g + 83) (hcs0 : cs ≤ 40) (hcn : cn < 600000) (hpr0 : pr0 ≤ 2) (hf0 : f0 ≤ 15) (hF3 : ∀ k, k < nf → fl k 3 < 65536) : gC l D ca A G y_Pg_passOutward (.code y_Pg_passOutward b_Pg_passOutward 5 (some .int)) ({ frames := 4, cells := 0, slots := 0, locals := 93 }) N M [.ref g, .int (nI pr0), .int (nI f0)] gm_i (fun (r : Int32) (N1 : Nat) (M1 : gm_M) => N = N1 ∧ ∃ (r0 : Int32) (fa1 : Nat → Nat) (fl1 : Nat → Nat → Nat) (n1 : Nat) (em1 : Nat → Nat) (cs1 : Nat), (outF ne pp po pi nr ru lw hw nf fl em cn cs so ta tm pr0 f0 = (r0, fl1, n1, em1, cs1)) ∧ (n1 ≤ 16) ∧ (okA (g + 65) fa1) ∧ (okF fl1) ∧ (cs1 ≤ 40) ∧ M1 (g + 63) = some (.inr (3, [.ref (g + 64), .int (nI n1)])) ∧ M1 (g + 64) = some (.inl (ca 3, 16, .inr (.inr (.inr (.inr (oF fa1)))))) ∧ M1 (g + 81) = some (.inl (ca 0, 4, .inl (iN em1))) ∧ M1 cu = some (.inr (0, [.int (nI cn), .int (nI cs1), .int (nI ct), .int (nI ce), .int cb])) ∧ (∀ fi, fi < 16 → M1 (fa1 fi) = some (.inr (2, [.int (nI (fl1 fi 0)), .int (nI (fl1 fi 1)), .int (nI (fl1 fi 2)), .int (nI (fl1 fi 3)), .int (nI (fl1 fi 4)), .int (nI (fl1 fi 5)), .int (nI (fl1 fi 6)), .int (nI (fl1 fi 7))]))) ∧ (∀ z, z ≠ (g + 63) → z ≠ (g + 64) → z ≠ (g + 81) → z ≠ cu → ¬ ((g + 65) ≤ z ∧ z < (g + 65) + 16) → M1 z = M z) ∧ r0 = r) := by
  refine gm_body (by decide) (Nat.le_of_ble_eq_true rfl) (fun p e s m below meth c ls hx hb hr hts hown hlk hml hnm hP hK hN hX hS hl => ?_)
  have htl : ∀ w ∈ LW, w.before _ s = true := fun w h => hts w (List.mem_cons_of_mem _ h)
  have hown : s.vm.findClass "PacketGate" = some m.cls := hown
  have hl : lv_has ls 5 [(0, .ref g), (1, .int (nI pr0)), (2, .int (nI f0))] := hl
  have hfb : ∀ i q, fl i q < 1000000 := fun i q => (hF i).1 q
  refine lv_aload_n hx hb d_Pg_passOutward_0 rfl (lv_at hl 0 rfl) ?_
  refine gm_get (C := R_Pg) (T := F_Pg) (n := 15) hx hb htl i_Pg hown hK hP eg rfl 9 (by decide) (htl _ k_206) (fun _ h => h) rfl d_Pg_passOutward_1 ?_
  refine gc_S (n := 1) [.int (nI so)] [] hx hb hml hown hts hK hN hX hP hS (c_Pg_isInside so (by omega)) k_558 k_559 k_1 k_560 (by decide +kernel) ⟨by decide, by decide⟩ rfl hl.1 rfl (Nat.le_of_ble_eq_true rfl) d_Pg_passOutward_4 ⟨by decide, by decide⟩ (fun r N1 M_1 H locs hw hP hS => ?_)
  obtain ⟨rfl, hw⟩ := hw
  rcases hw with ⟨c_2, rfl, rfl⟩ | ⟨c_3, rfl, rfl⟩
  · skip
    refine W.eq (g2 := F0 m 7 ls [.int (nI 1)]) rfl ?_
    refine lv_if_eq (tgt := 20) hx hb d_Pg_passOutward_7 (by decide) (fun q => absurd q (by decide)) (fun _ => ?_)
    refine lv_aload_n hx hb d_Pg_passOutward_10 rfl (lv_at hl 0 rfl) ?_
    refine gm_get (C := R_Pg) (T := F_Pg) (n := 15) hx hb htl i_Pg hown hK hP eg rfl 10 (by decide) (htl _ k_207) (fun _ h => h) rfl d_Pg_passOutward_11 ?_
    refine gc_S (n := 1) [.int (nI ta)] [] hx hb hml hown hts hK hN hX hP hS (c_Pg_isOutside ta (by omega)) k_564 k_565 k_1 k_566 (by decide +kernel) ⟨by decide, by decide⟩ rfl hl.1 rfl (Nat.le_of_ble_eq_true rfl) d_Pg_passOutward_14 ⟨by decide, by decide⟩ (fun r N1 M_4 H locs hw hP hS => ?_)
    obtain ⟨rfl, hw⟩ := hw
    rcases hw with ⟨c_5, rfl, rfl⟩ | ⟨c_6, rfl, rfl⟩
    · skip
      refine W.eq (g2 := F0 m 17 ls [.int (nI 1)]) rfl ?_
      refine lv_if_ne (tgt := 23) hx hb d_Pg_passOutward_17 (by decide) (fun _ => ?_) (fun q => absurd q (by decide))
      refine lv_aload_n hx hb d_Pg_passOutward_23 rfl (lv_at hl 0 rfl) ?_
      refine gm_get (C := R_Pg) (T := F_Pg) (n := 15) hx hb htl i_Pg hown hK hP eg rfl 5 (by decide) (htl _ k_202) (fun _ h => h) rfl d_Pg_passOutward_24 ?_
      refine lv_iload_n hx hb d_Pg_passOutward_27 rfl (lv_at hl 1 rfl) ?_
      refine lv_aload_n hx hb d_Pg_passOutward_28 rfl (lv_at hl 0 rfl) ?_
      refine gm_get (C := R_Pg) (T := F_Pg) (n := 15) hx hb htl i_Pg hown hK hP eg rfl 9 (by decide) (htl _ k_206) (fun _ h => h) rfl d_Pg_passOutward_29 ?_
      refine lv_aload_n hx hb d_Pg_passOutward_32 rfl (lv_at hl 0 rfl) ?_
      refine gm_get (C := R_Pg) (T := F_Pg) (n := 15) hx hb htl i_Pg hown hK hP eg rfl 10 (by decide) (htl _ k_207) (fun _ h => h) rfl d_Pg_passOutward_33 ?_
      refine gc_V (q := (R_Ft, F_Ft, 2)) (n := 3) [.int (nI pr0), .int (nI so), .int (nI ta)] [] hx hb hml hown hts hK hN hX hP hS (c_Ft_find ef efa hf (by omega) hA hF (by omega) (by omega) (by omega)) rfl ef k_567 k_568 k_569 k_7 k_570 (by decide +kernel) ⟨by decide, by decide⟩ rfl hl.1 rfl (Nat.le_of_ble_eq_true rfl) d_Pg_passOutward_36 ⟨by decide, by decide⟩ (fun r N1 M_7 H locs hw hP hS => ?_)
      obtain ⟨rfl, hw⟩ := hw
      rcases hw with ⟨kv_8, c_9, c_10, c_11, rfl, rfl⟩ | ⟨c_12, rfl, rfl⟩
      · skip
        refine W.eq (g2 := F0 m 39 ls [.int (nI kv_8)]) rfl ?_
        have hq_13 := ffP_some (P := fun k => fl k 0 = pr0 ∧ fl k 1 = so ∧ fl k 2 = ta) c_9 c_10 c_11
        have b_14 := hF3 kv_8 c_9
        have b_15 := hfb kv_8 3
        refine lv_istore_n (lv' := [(3, .int (nI kv_8)), (0, .ref g), (1, .int (nI pr0)), (2, .int (nI f0))]) hx hb d_Pg_passOutward_39 rfl hl (by decide) rfl (fun ls hl => ?_)
        refine lv_iload_n hx hb d_Pg_passOutward_40 rfl (lv_at hl 0 rfl) ?_
        refine lv_iconst (v := (-1)) hx hb d_Pg_passOutward_41 (by decide) ?_
        refine lv_icmp_eq (tgt := 87) hx hb d_Pg_passOutward_42 (by decide) (fun q => absurd q (nI_nm1 (by omega))) (fun _ => ?_)
        refine lv_aload_n hx hb d_Pg_passOutward_45 rfl (lv_at hl 1 rfl) ?_
        refine gm_get (C := R_Pg) (T := F_Pg) (n := 15) hx hb htl i_Pg hown hK hP eg rfl 5 (by decide) (htl _ k_202) (fun _ h => h) rfl d_Pg_passOutward_46 ?_
        refine lv_iload_n hx hb d_Pg_passOutward_49 rfl (lv_at hl 0 rfl) ?_
        refine gc_V (q := (R_Ft, F_Ft, 2)) (n := 1) [.int (nI kv_8)] [] hx hb hml hown hts hK hN hX hP hS (c_Ft_get ef efa hf (by omega) hA hF (by omega)) rfl ef k_571 k_572 k_573 k_7 k_574 (by decide +kernel) ⟨by decide, by decide⟩ rfl hl.1 rfl (Nat.le_of_ble_eq_true rfl) d_Pg_passOutward_50 ⟨by decide, by decide⟩ (fun r N1 M_16 H locs hw hP hS => ?_)
        obtain ⟨rfl, hw⟩ := hw
        obtain ⟨rfl, rfl⟩ := hw
        refine W.eq (g2 := F0 m 53 ls [.ref (fa kv_8)]) rfl ?_
        refine gm_get (C := R_Fl) (T := F_Fl) (n := 8) hx hb htl i_Fl hown hK hP (hf kv_8 (by omega)) rfl 3 (by decide) (htl _ k_135) (fun _ h => h) rfl d_Pg_passOutward_53 ?_
        have b_17 := hfb kv_8 3
        refine lv_istore (lv' := [(4, .int (nI (fl kv_8 3))), (3, .int (nI kv_8)), (0, .ref g), (1, .int (nI pr0)), (2, .int (nI f0))]) hx hb d_Pg_passOutward_56 hl (by decide) rfl (fun ls hl => ?_)
        refine lv_aload_n hx hb d_Pg_passOutward_58 rfl (lv_at hl 2 rfl) ?_
        refine gm_get (C := R_Pg) (T := F_Pg) (n := 15) hx hb htl i_Pg hown hK hP eg rfl 5 (by decide) (htl _ k_202) (fun _ h => h) rfl d_Pg_passOutward_59 ?_
        refine lv_iload_n hx hb d_Pg_passOutward_62 rfl (lv_at hl 1 rfl) ?_
        refine lv_iconst (v := nI 1) hx hb d_Pg_passOutward_63 (by decide) ?_
        refine lv_iload_n hx hb d_Pg_passOutward_64 rfl (lv_at hl 4 rfl) ?_
        refine lv_aload_n hx hb d_Pg_passOutward_65 rfl (lv_at hl 2 rfl) ?_
        refine gm_get (C := R_Pg) (T := F_Pg) (n := 15) hx hb htl i_Pg hown hK hP eg rfl 11 (by decide) (htl _ k_208) (fun _ h => h) rfl d_Pg_passOutward_66 ?_
        refine gc_V (q := (R_Ft, F_Ft, 2)) (n := 4) [.int (nI kv_8), .int (nI 1), .int (nI f0), .int (nI tm)] [] hx hb hml hown hts hK hN hX hP hS (c_Ft_follow ef efa hf (by omega) hA hF (by omega) (by omega) (by omega) (by omega)) rfl ef k_575 k_576 k_577 k_7 k_578 (by decide +kernel) ⟨by decide, by decide⟩ rfl hl.1 rfl (Nat.le_of_ble_eq_true rfl) d_Pg_passOutward_69 ⟨by decide, by decide⟩ (fun r N1 M_18 H locs hw hP hS => ?_)
        obtain ⟨rfl, hw⟩ := hw
        rcases hw with ⟨c_19, rfl, rfl⟩ | ⟨fa1v_20, fl1v_21, n1v_22, c_23, c_24, c_25, c_26, h_27, h_28, hfm_29, hfr_30, rfl⟩
        · skip
          refine W.eq (g2 := F0 m 72 ls [.int (nI 0)]) rfl ?_
          refine lv_if_eq (tgt := 84) hx hb d_Pg_passOutward_72 (by decide) (fun _ => ?_) (fun q => absurd q (by decide))
          refine lv_bipush (v := (-6)) hx hb d_Pg_passOutward_84 (by decide) ?_
          exact gc_iret hx hb hr hlk hP hS d_Pg_passOutward_86 ⟨rfl, (-6), fa, fl, nf, em, cs, (by unfold outF; rw [if_neg (by omega), hq_13]; simp only [c_19]), (by omega), hA, hF, (by omega), ef, efa, eem, ecu, hf, (fun z q0 q1 q2 q3 qr => rfl), rfl⟩
        · skip
          have h_31 := (hfr_30 _ (gm_ne eg ef (fun h => by cases h)) (gm_ne eg efa (fun h => by cases h)) (gm_ne eg (hf kv_8 (by omega)) (fun h => by cases h))).trans eg
          have h_32 := (hfr_30 _ (gm_ne eb ef (fun h => by cases h)) (gm_ne eb efa (fun h => by cases h)) (gm_ne eb (hf kv_8 (by omega)) (fun h => by cases h))).trans eb
          have h_33 := (hfr_30 _ (gm_ne ea ef (fun h => by cases h)) (gm_ne ea efa (fun h => by simp at h)) (gm_ne ea (hf kv_8 (by omega)) (fun h => by cases h))).trans ea
          have h_34 := (hfr_30 _ (gm_ne ex0 ef (fun h => by cases h)) (gm_ne ex0 efa (fun h => by cases h)) (gm_ne ex0 (hf kv_8 (by omega)) (fun h => by cases h))).trans ex0
          have h_35 := (hfr_30 _ (gm_ne ex1 ef (fun h => by cases h)) (gm_ne ex1 efa (fun h => by simp at h)) (gm_ne ex1 (hf kv_8 (by omega)) (fun h => by cases h))).trans ex1
          have h_36 := (hfr_30 _ (gm_ne ex2 ef (fun h => by cases h)) (gm_ne ex2 efa (fun h => by simp at h)) (gm_ne ex2 (hf kv_8 (by omega)) (fun h => by cases h))).trans ex2
          have h_37 := (hfr_30 _ (gm_ne ex3 ef (fun h => by cases h)) (gm_ne ex3 efa (fun h => by simp at h)) (gm_ne ex3 (hf kv_8 (by omega)) (fun h => by cases h))).trans ex3
          have h_38 := (hfr_30 _ (gm_ne eem ef (fun h => by cases h)) (gm_ne eem efa (fun h => by simp at h)) (gm_ne eem (hf kv_8 (by omega)) (fun h => by cases h))).trans eem
          have h_39 := (hfr_30 _ (gm_ne ecu ef (fun h => by cases h)) (gm_ne ecu efa (fun h => by cases h)) (gm_ne ecu (hf kv_8 (by omega)) (fun h => by cases h))).trans ecu
          have hfb_40 : ∀ i q, fl1v_21 i q < 1000000 := fun i q => (c_26 i).1 q
          have hf_41 : ∀ fi, fi < nr → M_18 (ra fi) = some (.inr (5, [.int (nI (ru fi 0)), .int (nI (ru fi 1)), .int (nI (ru fi 2)), .ref (ra fi + 1), .ref (ra fi + 2)])) := fun fi hfi => (hfr_30 _ (gm_ne (hr1 fi hfi) ef (fun h => by cases h)) (gm_ne (hr1 fi hfi) efa (fun h => by cases h)) (gm_ne (hr1 fi hfi) (hf kv_8 (by omega)) (fun h => by cases h))).trans (hr1 fi hfi)
          have hf_42 : ∀ fi, fi < 17 → M_18 (ra fi + 1) = some (.inl (ca 0, 3, .inl (iN (lw fi)))) := fun fi hfi => (hfr_30 _ (gm_ne (hr2 fi hfi) ef (fun h => by cases h)) (gm_ne (hr2 fi hfi) efa (fun h => by simp at h)) (gm_ne (hr2 fi hfi) (hf kv_8 (by omega)) (fun h => by cases h))).trans (hr2 fi hfi)
          have hf_43 : ∀ fi, fi < 17 → M_18 (ra fi + 2) = some (.inl (ca 0, 3, .inl (iN (hw fi)))) := fun fi hfi => (hfr_30 _ (gm_ne (hr3 fi hfi) ef (fun h => by cases h)) (gm_ne (hr3 fi hfi) efa (fun h => by simp at h)) (gm_ne (hr3 fi hfi) (hf kv_8 (by omega)) (fun h => by cases h))).trans (hr3 fi hfi)
          refine W.eq (g2 := F0 m 72 ls [.int (nI 1)]) rfl ?_
          refine lv_if_eq (tgt := 84) hx hb d_Pg_passOutward_72 (by decide) (fun q => absurd q (by decide)) (fun _ => ?_)
          refine lv_aload_n hx hb d_Pg_passOutward_75 rfl (lv_at hl 2 rfl) ?_
          refine lv_iload hx hb d_Pg_passOutward_76 (lv_at hl 0 rfl) ?_
          refine gc_V (q := (R_Pg, F_Pg, 15)) (n := 1) [.int (nI (fl kv_8 3))] [] hx hb hml hown hts hK hN hX hP hS (c_Pg_sendOut h_31 h_38 (by omega) (by omega)) rfl h_31 k_597 k_599 ks_Pg_sendOut k_1 k_600 (by decide +kernel) ⟨by decide, by decide⟩ rfl hl.1 rfl (Nat.le_of_ble_eq_true rfl) d_Pg_passOutward_78 ⟨by decide, by decide⟩ (fun r N1 M_44 H locs hw hP hS => ?_)
          obtain ⟨rfl, hw⟩ := hw
          obtain ⟨rfl, rfl⟩ := hw
          have hP : gm_P D cls A N (gm_up M_18 (g + 81) (.inl (ca 0, 4, .inl (iN (va_up (va_up (va_up (va_up em 0 200) 1 (fl kv_8 3)) 2 (ta / 256)) 3 (ta % 256)))))) H := hP
          have h_45 := gm_pass (k := (g + 81)) (y := .inl (ca 0, 4, .inl (iN (va_up (va_up (va_up (va_up em 0 200) 1 (fl kv_8 3)) 2 (ta / 256)) 3 (ta % 256))))) h_31 (gm_ne h_31 h_38 (fun h => by cases h))
          have h_46 := gm_pass (k := (g + 81)) (y := .inl (ca 0, 4, .inl (iN (va_up (va_up (va_up (va_up em 0 200) 1 (fl kv_8 3)) 2 (ta / 256)) 3 (ta % 256))))) h_32 (gm_ne h_32 h_38 (fun h => by cases h))
          have h_47 := gm_pass (k := (g + 81)) (y := .inl (ca 0, 4, .inl (iN (va_up (va_up (va_up (va_up em 0 200) 1 (fl kv_8 3)) 2 (ta / 256)) 3 (ta % 256))))) h_33 (gm_ne h_33 h_38 (fun h => by simp at h))
          have h_48 := gm_pass (k := (g + 81)) (y := .inl (ca 0, 4, .inl (iN (va_up (va_up (va_up (va_up em 0 200) 1 (fl kv_8 3)) 2 (ta / 256)) 3 (ta % 256))))) h_34 (gm_ne h_34 h_38 (fun h => by cases h))
          have h_49 := gm_pass (k := (g + 81)) (y := .inl (ca 0, 4, .inl (iN (va_up (va_up (va_up (va_up em 0 200) 1 (fl kv_8 3)) 2 (ta / 256)) 3 (ta % 256))))) h_35 (by omega)
          have h_50 := gm_pass (k := (g + 81)) (y := .inl (ca 0, 4, .inl (iN (va_up (va_up (va_up (va_up em 0 200) 1 (fl kv_8 3)) 2 (ta / 256)) 3 (ta % 256))))) h_36 (by omega)
          have h_51 := gm_pass (k := (g + 81)) (y := .inl (ca 0, 4, .inl (iN (va_up (va_up (va_up (va_up em 0 200) 1 (fl kv_8 3)) 2 (ta / 256)) 3 (ta % 256))))) h_37 (by omega)
          have h_52 := gm_pass (k := (g + 81)) (y := .inl (ca 0, 4, .inl (iN (va_up (va_up (va_up (va_up em 0 200) 1 (fl kv_8 3)) 2 (ta / 256)) 3 (ta % 256))))) h_39 (gm_ne h_39 h_38 (fun h => by cases h))
          have h_53 := gm_pass (k := (g + 81)) (y := .inl (ca 0, 4, .inl (iN (va_up (va_up (va_up (va_up em 0 200) 1 (fl kv_8 3)) 2 (ta / 256)) 3 (ta % 256))))) h_27 (gm_ne h_27 h_38 (fun h => by cases h))
          have h_54 := gm_pass (k := (g + 81)) (y := .inl (ca 0, 4, .inl (iN (va_up (va_up (va_up (va_up em 0 200) 1 (fl kv_8 3)) 2 (ta / 256)) 3 (ta % 256))))) h_28 (gm_ne h_28 h_38 (fun h => by simp at h))
          have h_55 := gm_up_self M_18 (g + 81) (.inl (ca 0, 4, .inl (iN (va_up (va_up (va_up (va_up em 0 200) 1 (fl kv_8 3)) 2 (ta / 256)) 3 (ta % 256)))))
          have hf_56 : ∀ fi, fi < 16 → (gm_up M_18 (g + 81) (.inl (ca 0, 4, .inl (iN (va_up (va_up (va_up (va_up em 0 200) 1 (fl kv_8 3)) 2 (ta / 256)) 3 (ta % 256)))))) (fa1v_20 fi) = some (.inr (2, [.int (nI (fl1v_21 fi 0)), .int (nI (fl1v_21 fi 1)), .int (nI (fl1v_21 fi 2)), .int (nI (fl1v_21 fi 3)), .int (nI (fl1v_21 fi 4)), .int (nI (fl1v_21 fi 5)), .int (nI (fl1v_21 fi 6)), .int (nI (fl1v_21 fi 7))])) := fun fi hfi => gm_pass (k := (g + 81)) (y := .inl (ca 0, 4, .inl (iN (va_up (va_up (va_up (va_up em 0 200) 1 (fl kv_8 3)) 2 (ta / 256)) 3 (ta % 256))))) (hfm_29 fi hfi) (gm_ne (hfm_29 fi hfi) h_38 (fun h => by cases h))
          have hf_57 : ∀ fi, fi < nr → (gm_up M_18 (g + 81) (.inl (ca 0, 4, .inl (iN (va_up (va_up (va_up (va_up em 0 200) 1 (fl kv_8 3)) 2 (ta / 256)) 3 (ta % 256)))))) (ra fi) = some (.inr (5, [.int (nI (ru fi 0)), .int (nI (ru fi 1)), .int (nI (ru fi 2)), .ref (ra fi + 1), .ref (ra fi + 2)])) := fun fi hfi => gm_pass (k := (g + 81)) (y := .inl (ca 0, 4, .inl (iN (va_up (va_up (va_up (va_up em 0 200) 1 (fl kv_8 3)) 2 (ta / 256)) 3 (ta % 256))))) (hf_41 fi hfi) (gm_ne (hf_41 fi hfi) h_38 (fun h => by cases h))
          have hf_58 : ∀ fi, fi < 17 → (gm_up M_18 (g + 81) (.inl (ca 0, 4, .inl (iN (va_up (va_up (va_up (va_up em 0 200) 1 (fl kv_8 3)) 2 (ta / 256)) 3 (ta % 256)))))) (ra fi + 1) = some (.inl (ca 0, 3, .inl (iN (lw fi)))) := fun fi hfi => gm_pass (k := (g + 81)) (y := .inl (ca 0, 4, .inl (iN (va_up (va_up (va_up (va_up em 0 200) 1 (fl kv_8 3)) 2 (ta / 256)) 3 (ta % 256))))) (hf_42 fi hfi) (gm_ne (hf_42 fi hfi) h_38 (fun h => by simp at h))
          have hf_59 : ∀ fi, fi < 17 → (gm_up M_18 (g + 81) (.inl (ca 0, 4, .inl (iN (va_up (va_up (va_up (va_up em 0 200) 1 (fl kv_8 3)) 2 (ta / 256)) 3 (ta % 256)))))) (ra fi + 2) = some (.inl (ca 0, 3, .inl (iN (hw fi)))) := fun fi hfi => gm_pass (k := (g + 81)) (y := .inl (ca 0, 4, .inl (iN (va_up (va_up (va_up (va_up em 0 200) 1 (fl kv_8 3)) 2 (ta / 256)) 3 (ta % 256))))) (hf_43 fi hfi) (gm_ne (hf_43 fi hfi) h_38 (fun h => by simp at h))
          refine W.eq (g2 := F0 m 81 ls [.int (nI 0)]) rfl ?_
          refine lv_goto (tgt := 86) hx hb d_Pg_passOutward_81 (by decide) ?_
          exact gc_iret hx hb hr hlk hP hS d_Pg_passOutward_86 ⟨rfl, (nI 0), fa1v_20, fl1v_21, n1v_22, (va_up (va_up (va_up (va_up em 0 200) 1 (fl kv_8 3)) 2 (ta / 256)) 3 (ta % 256)), cs, (by unfold outF; rw [if_neg (by omega), hq_13]; simp only [c_23]; rfl), (by omega), c_25, c_26, (by omega), h_53, h_54, h_55, h_52, hf_56, (fun z q0 q1 q2 q3 qr => (gm_up_ne _ _ q2).trans ((hfr_30 z q0 q1 (fun q => qr (by rw [q]; exact hA.1 kv_8 (by omega)))).trans (rfl))), rfl⟩
      · skip
        refine W.eq (g2 := F0 m 39 ls [.int (-1)]) rfl ?_
        have hq_60 := ffP_none (P := fun k => fl k 0 = pr0 ∧ fl k 1 = so ∧ fl k 2 = ta) c_12
        refine lv_istore_n (lv' := [(3, .int (-1)), (0, .ref g), (1, .int (nI pr0)), (2, .int (nI f0))]) hx hb d_Pg_passOutward_39 rfl hl (by decide) rfl (fun ls hl => ?_)
        refine lv_iload_n hx hb d_Pg_passOutward_40 rfl (lv_at hl 0 rfl) ?_
        refine lv_iconst (v := (-1)) hx hb d_Pg_passOutward_41 (by decide) ?_
        refine lv_icmp_eq (tgt := 87) hx hb d_Pg_passOutward_42 (by decide) (fun _ => ?_) (fun q => absurd q (by decide))
        refine lv_aload_n hx hb d_Pg_passOutward_87 rfl (lv_at hl 1 rfl) ?_
        refine gm_get (C := R_Pg) (T := F_Pg) (n := 15) hx hb htl i_Pg hown hK hP eg rfl 2 (by decide) (htl _ k_199) (fun _ h => h) rfl d_Pg_passOutward_88 ?_
        refine lv_iconst (v := nI 1) hx hb d_Pg_passOutward_91 (by decide) ?_
        refine lv_iload_n hx hb d_Pg_passOutward_92 rfl (lv_at hl 2 rfl) ?_
        refine lv_aload_n hx hb d_Pg_passOutward_93 rfl (lv_at hl 1 rfl) ?_
        refine gm_get (C := R_Pg) (T := F_Pg) (n := 15) hx hb htl i_Pg hown hK hP eg rfl 9 (by decide) (htl _ k_206) (fun _ h => h) rfl d_Pg_passOutward_94 ?_
        refine lv_aload_n hx hb d_Pg_passOutward_97 rfl (lv_at hl 1 rfl) ?_
        refine gm_get (C := R_Pg) (T := F_Pg) (n := 15) hx hb htl i_Pg hown hK hP eg rfl 10 (by decide) (htl _ k_207) (fun _ h => h) rfl d_Pg_passOutward_98 ?_
        refine gc_V (q := (R_Rb, F_Rb, 2)) (n := 4) [.int (nI 1), .int (nI pr0), .int (nI so), .int (nI ta)] [] hx hb hml hown hts hK hN hX hP hS (c_Rb_policy eb ea hr1 hr2 hr3 (by omega) hU (by omega) (by omega) (by omega) (by omega)) rfl eb k_608 k_609 k_610 k_4 k_611 (by decide +kernel) ⟨by decide, by decide⟩ rfl hl.1 rfl (Nat.le_of_ble_eq_true rfl) d_Pg_passOutward_101 ⟨by decide, by decide⟩ (fun r N1 M_61 H locs hw hP hS => ?_)
        obtain ⟨rfl, hw⟩ := hw
        obtain ⟨av_62, c_63, c_64, rfl, rfl⟩ := hw
        refine W.eq (g2 := F0 m 104 ls [.int (nI av_62)]) rfl ?_
        have hp_65 := pol_F c_63
        refine lv_istore (lv' := [(4, .int (nI av_62)), (3, .int (-1)), (0, .ref g), (1, .int (nI pr0)), (2, .int (nI f0))]) hx hb d_Pg_passOutward_104 hl (by decide) rfl (fun ls hl => ?_)
        refine lv_iload hx hb d_Pg_passOutward_106 (lv_at hl 0 rfl) ?_
        refine lv_iconst (v := nI 1) hx hb d_Pg_passOutward_108 (by decide) ?_
        refine ln_ne (tgt := 115) hx hb d_Pg_passOutward_109 (by decide) (by omega) (by omega) (fun c_66 => ?_) (fun c_66 => ?_)
        · skip
          refine lv_iload hx hb d_Pg_passOutward_115 (lv_at hl 0 rfl) ?_
          refine lv_iconst (v := nI 2) hx hb d_Pg_passOutward_117 (by decide) ?_
          refine ln_ne (tgt := 128) hx hb d_Pg_passOutward_118 (by decide) (by omega) (by omega) (fun c_67 => ?_) (fun c_67 => ?_)
          · skip
            refine lv_aload_n hx hb d_Pg_passOutward_128 rfl (lv_at hl 2 rfl) ?_
            refine lv_iload_n hx hb d_Pg_passOutward_129 rfl (lv_at hl 3 rfl) ?_
            refine lv_iload_n hx hb d_Pg_passOutward_130 rfl (lv_at hl 4 rfl) ?_
            refine gc_V (q := (R_Pg, F_Pg, 15)) (n := 2) [.int (nI pr0), .int (nI f0)] [] hx hb hml hown hts hK hN hX hP hS (c_Pg_openOutward eg ex0 ex1 ex2 ex3 ef efa eem (by omega) hpp hpo hpi hf (by omega) hA hF (by omega) (by omega) (by omega) (by omega) (by omega) (by omega)) rfl eg k_626 k_628 ks_Pg_openOutward k_1 k_629 (by decide +kernel) ⟨by decide, by decide⟩ rfl hl.1 rfl (Nat.le_of_ble_eq_true rfl) d_Pg_passOutward_131 ⟨by decide, by decide⟩ (fun r N1 M_68 H locs hw hP hS => ?_)
            obtain ⟨rfl, hw⟩ := hw
            obtain ⟨r0v_69, fl1v_70, n1v_71, em1v_72, c_73, c_74, c_75, h_76, h_77, hfm_78, hfr_79, rfl⟩ := hw
            have h_80 := (hfr_79 _ (gm_ne eg ef (fun h => by cases h)) (gm_ne eg eem (fun h => by cases h)) (by omega)).trans eg
            have h_81 := (hfr_79 _ (gm_ne eb ef (fun h => by cases h)) (gm_ne eb eem (fun h => by cases h)) (by omega)).trans eb
            have h_82 := (hfr_79 _ (gm_ne ea ef (fun h => by cases h)) (gm_ne ea eem (fun h => by simp at h)) (by omega)).trans ea
            have h_83 := (hfr_79 _ (gm_ne ex0 ef (fun h => by cases h)) (gm_ne ex0 eem (fun h => by cases h)) (by omega)).trans ex0
            have h_84 := (hfr_79 _ (gm_ne ex1 ef (fun h => by cases h)) (by omega) (by omega)).trans ex1
            have h_85 := (hfr_79 _ (gm_ne ex2 ef (fun h => by cases h)) (by omega) (by omega)).trans ex2
            have h_86 := (hfr_79 _ (gm_ne ex3 ef (fun h => by cases h)) (by omega) (by omega)).trans ex3
            have h_87 := (hfr_79 _ (gm_ne efa ef (fun h => by cases h)) (gm_ne efa eem (fun h => by simp at h)) (by omega)).trans efa
            have h_88 := (hfr_79 _ (gm_ne ecu ef (fun h => by cases h)) (gm_ne ecu eem (fun h => by cases h)) (by omega)).trans ecu
            have hfb_89 : ∀ i q, fl1v_70 i q < 1000000 := fun i q => (c_75 i).1 q
            have hf_90 : ∀ fi, fi < nr → M_68 (ra fi) = some (.inr (5, [.int (nI (ru fi 0)), .int (nI (ru fi 1)), .int (nI (ru fi 2)), .ref (ra fi + 1), .ref (ra fi + 2)])) := fun fi hfi => (hfr_79 _ (gm_ne (hr1 fi hfi) ef (fun h => by cases h)) (gm_ne (hr1 fi hfi) eem (fun h => by cases h)) (by have := hR.1 fi (by omega); omega)).trans (hr1 fi hfi)
            have hf_91 : ∀ fi, fi < 17 → M_68 (ra fi + 1) = some (.inl (ca 0, 3, .inl (iN (lw fi)))) := fun fi hfi => (hfr_79 _ (gm_ne (hr2 fi hfi) ef (fun h => by cases h)) (gm_ne (hr2 fi hfi) eem (fun h => by simp at h)) (by have := hR.1 fi (by omega); omega)).trans (hr2 fi hfi)
            have hf_92 : ∀ fi, fi < 17 → M_68 (ra fi + 2) = some (.inl (ca 0, 3, .inl (iN (hw fi)))) := fun fi hfi => (hfr_79 _ (gm_ne (hr3 fi hfi) ef (fun h => by cases h)) (gm_ne (hr3 fi hfi) eem (fun h => by simp at h)) (by have := hR.1 fi (by omega); omega)).trans (hr3 fi hfi)
            refine W.eq (g2 := F0 m 134 ls [.int r0v_69]) rfl ?_
            exact gc_iret hx hb hr hlk hP hS d_Pg_passOutward_134 ⟨rfl, r0v_69, fa, fl1v_70, n1v_71, em1v_72, cs, (by unfold outF; rw [if_neg (by omega), hq_60]; simp only [hp_65]; rw [if_neg (by omega), if_neg (by omega)]; exact openO_cs cs c_73), (by omega), hA, c_75, (by omega), h_76, h_87, h_77, h_88, hfm_78, (fun z q0 q1 q2 q3 qr => (hfr_79 z q0 q2 qr).trans (rfl)), rfl⟩
          · skip
            refine lv_aload_n hx hb d_Pg_passOutward_121 rfl (lv_at hl 2 rfl) ?_
            refine gc_V (q := (R_Pg, F_Pg, 15)) (n := 0) [] [] hx hb hml hown hts hK hN hX hP hS (c_Pg_sealPacket eg eem ecu (by omega) (by omega)) rfl eg k_622 k_624 ks_Pg_sealPacket k_1 k_625 (by decide +kernel) ⟨by decide, by decide⟩ rfl hl.1 rfl (Nat.le_of_ble_eq_true rfl) d_Pg_passOutward_122 ⟨by decide, by decide⟩ (fun r N1 M_93 H locs hw hP hS => ?_)
            obtain ⟨rfl, hw⟩ := hw
            rcases hw with ⟨c_94, rfl, rfl⟩ | ⟨c_95, rfl, rfl⟩
            · skip
              refine W.eq (g2 := F0 m 125 ls [.int (-11)]) rfl ?_
              refine lv_goto (tgt := 134) hx hb d_Pg_passOutward_125 (by decide) ?_
              exact gc_iret hx hb hr hlk hP hS d_Pg_passOutward_134 ⟨rfl, (-11), fa, fl, nf, em, cs, (by unfold outF; rw [if_neg (by omega), hq_60]; simp only [hp_65]; rw [if_neg (by omega), if_pos (by omega), if_pos (by omega)]), (by omega), hA, hF, (by omega), ef, efa, eem, ecu, hf, (fun z q0 q1 q2 q3 qr => rfl), rfl⟩
            · skip
              have h_96 := gm_pass (k := cu) (y := .inr (0, [.int (nI cn), .int (nI (cs + 1)), .int (nI ct), .int (nI ce), .int cb])) eg (gm_ne eg ecu (fun h => by cases h))
              have h_97 := gm_pass (k := cu) (y := .inr (0, [.int (nI cn), .int (nI (cs + 1)), .int (nI ct), .int (nI ce), .int cb])) eb (gm_ne eb ecu (fun h => by cases h))
              have h_98 := gm_pass (k := cu) (y := .inr (0, [.int (nI cn), .int (nI (cs + 1)), .int (nI ct), .int (nI ce), .int cb])) ea (gm_ne ea ecu (fun h => by cases h))
              have h_99 := gm_pass (k := cu) (y := .inr (0, [.int (nI cn), .int (nI (cs + 1)), .int (nI ct), .int (nI ce), .int cb])) ex0 (gm_ne ex0 ecu (fun h => by cases h))
              have h_100 := gm_pass (k := cu) (y := .inr (0, [.int (nI cn), .int (nI (cs + 1)), .int (nI ct), .int (nI ce), .int cb])) ex1 (gm_ne ex1 ecu (fun h => by cases h))
              have h_101 := gm_pass (k := cu) (y := .inr (0, [.int (nI cn), .int (nI (cs + 1)), .int (nI ct), .int (nI ce), .int cb])) ex2 (gm_ne ex2 ecu (fun h => by cases h))
              have h_102 := gm_pass (k := cu) (y := .inr (0, [.int (nI cn), .int (nI (cs + 1)), .int (nI ct), .int (nI ce), .int cb])) ex3 (gm_ne ex3 ecu (fun h => by cases h))
              have h_103 := gm_pass (k := cu) (y := .inr (0, [.int (nI cn), .int (nI (cs + 1)), .int (nI ct), .int (nI ce), .int cb])) ef (gm_ne ef ecu (fun h => by cases h))
              have h_104 := gm_pass (k := cu) (y := .inr (0, [.int (nI cn), .int (nI (cs + 1)), .int (nI ct), .int (nI ce), .int cb])) efa (gm_ne efa ecu (fun h => by cases h))
              have h_105 := gm_pass (k := cu) (y := .inr (0, [.int (nI cn), .int (nI (cs + 1)), .int (nI ct), .int (nI ce), .int cb])) eem (gm_ne eem ecu (fun h => by cases h))
              have h_106 := gm_up_self M cu (.inr (0, [.int (nI cn), .int (nI (cs + 1)), .int (nI ct), .int (nI ce), .int cb]))
              have hf_107 : ∀ fi, fi < 16 → (gm_up M cu (.inr (0, [.int (nI cn), .int (nI (cs + 1)), .int (nI ct), .int (nI ce), .int cb]))) (fa fi) = some (.inr (2, [.int (nI (fl fi 0)), .int (nI (fl fi 1)), .int (nI (fl fi 2)), .int (nI (fl fi 3)), .int (nI (fl fi 4)), .int (nI (fl fi 5)), .int (nI (fl fi 6)), .int (nI (fl fi 7))])) := fun fi hfi => gm_pass (k := cu) (y := .inr (0, [.int (nI cn), .int (nI (cs + 1)), .int (nI ct), .int (nI ce), .int cb])) (hf fi hfi) (gm_ne (hf fi hfi) ecu (fun h => by cases h))
              have hf_108 : ∀ fi, fi < nr → (gm_up M cu (.inr (0, [.int (nI cn), .int (nI (cs + 1)), .int (nI ct), .int (nI ce), .int cb]))) (ra fi) = some (.inr (5, [.int (nI (ru fi 0)), .int (nI (ru fi 1)), .int (nI (ru fi 2)), .ref (ra fi + 1), .ref (ra fi + 2)])) := fun fi hfi => gm_pass (k := cu) (y := .inr (0, [.int (nI cn), .int (nI (cs + 1)), .int (nI ct), .int (nI ce), .int cb])) (hr1 fi hfi) (gm_ne (hr1 fi hfi) ecu (fun h => by cases h))
              have hf_109 : ∀ fi, fi < 17 → (gm_up M cu (.inr (0, [.int (nI cn), .int (nI (cs + 1)), .int (nI ct), .int (nI ce), .int cb]))) (ra fi + 1) = some (.inl (ca 0, 3, .inl (iN (lw fi)))) := fun fi hfi => gm_pass (k := cu) (y := .inr (0, [.int (nI cn), .int (nI (cs + 1)), .int (nI ct), .int (nI ce), .int cb])) (hr2 fi hfi) (gm_ne (hr2 fi hfi) ecu (fun h => by cases h))
              have hf_110 : ∀ fi, fi < 17 → (gm_up M cu (.inr (0, [.int (nI cn), .int (nI (cs + 1)), .int (nI ct), .int (nI ce), .int cb]))) (ra fi + 2) = some (.inl (ca 0, 3, .inl (iN (hw fi)))) := fun fi hfi => gm_pass (k := cu) (y := .inr (0, [.int (nI cn), .int (nI (cs + 1)), .int (nI ct), .int (nI ce), .int cb])) (hr3 fi hfi) (gm_ne (hr3 fi hfi) ecu (fun h => by cases h))
              have hP : gm_P D cls A N (gm_up (gm_up M cu (.inr (0, [.int (nI cn), .int (nI (cs + 1)), .int (nI ct), .int (nI ce), .int cb]))) (g + 81) (.inl (ca 0, 4, .inl (iN (va_up (va_up (va_up (va_up em 0 200) 1 cn) 2 250) 3 (cs + 1)))))) H := hP
              have h_111 := gm_pass (k := (g + 81)) (y := .inl (ca 0, 4, .inl (iN (va_up (va_up (va_up (va_up em 0 200) 1 cn) 2 250) 3 (cs + 1))))) h_96 (gm_ne h_96 h_105 (fun h => by cases h))
              have h_112 := gm_pass (k := (g + 81)) (y := .inl (ca 0, 4, .inl (iN (va_up (va_up (va_up (va_up em 0 200) 1 cn) 2 250) 3 (cs + 1))))) h_97 (gm_ne h_97 h_105 (fun h => by cases h))
              have h_113 := gm_pass (k := (g + 81)) (y := .inl (ca 0, 4, .inl (iN (va_up (va_up (va_up (va_up em 0 200) 1 cn) 2 250) 3 (cs + 1))))) h_98 (gm_ne h_98 h_105 (fun h => by simp at h))
              have h_114 := gm_pass (k := (g + 81)) (y := .inl (ca 0, 4, .inl (iN (va_up (va_up (va_up (va_up em 0 200) 1 cn) 2 250) 3 (cs + 1))))) h_99 (gm_ne h_99 h_105 (fun h => by cases h))
              have h_115 := gm_pass (k := (g + 81)) (y := .inl (ca 0, 4, .inl (iN (va_up (va_up (va_up (va_up em 0 200) 1 cn) 2 250) 3 (cs + 1))))) h_100 (by omega)
              have h_116 := gm_pass (k := (g + 81)) (y := .inl (ca 0, 4, .inl (iN (va_up (va_up (va_up (va_up em 0 200) 1 cn) 2 250) 3 (cs + 1))))) h_101 (by omega)
              have h_117 := gm_pass (k := (g + 81)) (y := .inl (ca 0, 4, .inl (iN (va_up (va_up (va_up (va_up em 0 200) 1 cn) 2 250) 3 (cs + 1))))) h_102 (by omega)
              have h_118 := gm_pass (k := (g + 81)) (y := .inl (ca 0, 4, .inl (iN (va_up (va_up (va_up (va_up em 0 200) 1 cn) 2 250) 3 (cs + 1))))) h_103 (gm_ne h_103 h_105 (fun h => by cases h))
              have h_119 := gm_pass (k := (g + 81)) (y := .inl (ca 0, 4, .inl (iN (va_up (va_up (va_up (va_up em 0 200) 1 cn) 2 250) 3 (cs + 1))))) h_104 (gm_ne h_104 h_105 (fun h => by simp at h))
              have h_120 := gm_pass (k := (g + 81)) (y := .inl (ca 0, 4, .inl (iN (va_up (va_up (va_up (va_up em 0 200) 1 cn) 2 250) 3 (cs + 1))))) h_106 (gm_ne h_106 h_105 (fun h => by cases h))
              have h_121 := gm_up_self (gm_up M cu (.inr (0, [.int (nI cn), .int (nI (cs + 1)), .int (nI ct), .int (nI ce), .int cb]))) (g + 81) (.inl (ca 0, 4, .inl (iN (va_up (va_up (va_up (va_up em 0 200) 1 cn) 2 250) 3 (cs + 1)))))
              have hf_122 : ∀ fi, fi < 16 → (gm_up (gm_up M cu (.inr (0, [.int (nI cn), .int (nI (cs + 1)), .int (nI ct), .int (nI ce), .int cb]))) (g + 81) (.inl (ca 0, 4, .inl (iN (va_up (va_up (va_up (va_up em 0 200) 1 cn) 2 250) 3 (cs + 1)))))) (fa fi) = some (.inr (2, [.int (nI (fl fi 0)), .int (nI (fl fi 1)), .int (nI (fl fi 2)), .int (nI (fl fi 3)), .int (nI (fl fi 4)), .int (nI (fl fi 5)), .int (nI (fl fi 6)), .int (nI (fl fi 7))])) := fun fi hfi => gm_pass (k := (g + 81)) (y := .inl (ca 0, 4, .inl (iN (va_up (va_up (va_up (va_up em 0 200) 1 cn) 2 250) 3 (cs + 1))))) (hf_107 fi hfi) (gm_ne (hf_107 fi hfi) h_105 (fun h => by cases h))
              have hf_123 : ∀ fi, fi < nr → (gm_up (gm_up M cu (.inr (0, [.int (nI cn), .int (nI (cs + 1)), .int (nI ct), .int (nI ce), .int cb]))) (g + 81) (.inl (ca 0, 4, .inl (iN (va_up (va_up (va_up (va_up em 0 200) 1 cn) 2 250) 3 (cs + 1)))))) (ra fi) = some (.inr (5, [.int (nI (ru fi 0)), .int (nI (ru fi 1)), .int (nI (ru fi 2)), .ref (ra fi + 1), .ref (ra fi + 2)])) := fun fi hfi => gm_pass (k := (g + 81)) (y := .inl (ca 0, 4, .inl (iN (va_up (va_up (va_up (va_up em 0 200) 1 cn) 2 250) 3 (cs + 1))))) (hf_108 fi hfi) (gm_ne (hf_108 fi hfi) h_105 (fun h => by cases h))
              have hf_124 : ∀ fi, fi < 17 → (gm_up (gm_up M cu (.inr (0, [.int (nI cn), .int (nI (cs + 1)), .int (nI ct), .int (nI ce), .int cb]))) (g + 81) (.inl (ca 0, 4, .inl (iN (va_up (va_up (va_up (va_up em 0 200) 1 cn) 2 250) 3 (cs + 1)))))) (ra fi + 1) = some (.inl (ca 0, 3, .inl (iN (lw fi)))) := fun fi hfi => gm_pass (k := (g + 81)) (y := .inl (ca 0, 4, .inl (iN (va_up (va_up (va_up (va_up em 0 200) 1 cn) 2 250) 3 (cs + 1))))) (hf_109 fi hfi) (gm_ne (hf_109 fi hfi) h_105 (fun h => by simp at h))
              have hf_125 : ∀ fi, fi < 17 → (gm_up (gm_up M cu (.inr (0, [.int (nI cn), .int (nI (cs + 1)), .int (nI ct), .int (nI ce), .int cb]))) (g + 81) (.inl (ca 0, 4, .inl (iN (va_up (va_up (va_up (va_up em 0 200) 1 cn) 2 250) 3 (cs + 1)))))) (ra fi + 2) = some (.inl (ca 0, 3, .inl (iN (hw fi)))) := fun fi hfi => gm_pass (k := (g + 81)) (y := .inl (ca 0, 4, .inl (iN (va_up (va_up (va_up (va_up em 0 200) 1 cn) 2 250) 3 (cs + 1))))) (hf_110 fi hfi) (gm_ne (hf_110 fi hfi) h_105 (fun h => by simp at h))
              refine W.eq (g2 := F0 m 125 ls [.int (nI 1)]) rfl ?_
              refine lv_goto (tgt := 134) hx hb d_Pg_passOutward_125 (by decide) ?_
              exact gc_iret hx hb hr hlk hP hS d_Pg_passOutward_134 ⟨rfl, (nI 1), fa, fl, nf, (va_up (va_up (va_up (va_up em 0 200) 1 cn) 2 250) 3 (cs + 1)), (cs + 1), (by unfold outF; rw [if_neg (by omega), hq_60]; simp only [hp_65]; rw [if_neg (by omega), if_pos (by omega), if_neg (by omega)]; rfl), (by omega), hA, hF, (by omega), h_118, h_119, h_121, h_120, hf_122, (fun z q0 q1 q2 q3 qr => (gm_up_ne _ _ q2).trans ((gm_up_ne _ _ q3).trans (rfl))), rfl⟩
        · skip
          refine lv_bipush (v := (-4)) hx hb d_Pg_passOutward_112 (by decide) ?_
          exact gc_iret hx hb hr hlk hP hS d_Pg_passOutward_114 ⟨rfl, (-4), fa, fl, nf, em, cs, (by unfold outF; rw [if_neg (by omega), hq_60]; simp only [hp_65]; rw [if_pos (by omega)]), (by omega), hA, hF, (by omega), ef, efa, eem, ecu, hf, (fun z q0 q1 q2 q3 qr => rfl), rfl⟩
    · skip
      refine W.eq (g2 := F0 m 17 ls [.int (nI 0)]) rfl ?_
      refine lv_if_ne (tgt := 23) hx hb d_Pg_passOutward_17 (by decide) (fun q => absurd q (by decide)) (fun _ => ?_)
      refine lv_bipush (v := (-5)) hx hb d_Pg_passOutward_20 (by decide) ?_
      exact gc_iret hx hb hr hlk hP hS d_Pg_passOutward_22 ⟨rfl, (-5), fa, fl, nf, em, cs, (by unfold outF; rw [if_pos (by omega)]), (by omega), hA, hF, (by omega), ef, efa, eem, ecu, hf, (fun z q0 q1 q2 q3 qr => rfl), rfl⟩
  · skip
    refine W.eq (g2 := F0 m 7 ls [.int (nI 0)]) rfl ?_
    refine lv_if_eq (tgt := 20) hx hb d_Pg_passOutward_7 (by decide) (fun _ => ?_) (fun q => absurd q (by decide))
    refine lv_bipush (v := (-5)) hx hb d_Pg_passOutward_20 (by decide) ?_
    exact gc_iret hx hb hr hlk hP hS d_Pg_passOutward_22 ⟨rfl, (-5), fa, fl, nf, em, cs, (by unfold outF; rw [if_pos (by omega)]), (by omega), hA, hF, (by omega), ef, efa, eem, ecu, hf, (fun z q0 q1 q2 q3 qr => rfl), rfl⟩
end C26
