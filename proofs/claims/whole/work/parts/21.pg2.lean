section C21
variable {l : Launch} {D : va_G} {ca : Nat → ClassId} {A : Nat → Prop} {G : gG} {N : Nat} {M : gm_M}

theorem lift1 {y : Int32} {n : Nat} (hn : n < 2 ^ 30) (h : ¬ y < nI 1 ∧ ¬ nI n < y) : ∃ k : Nat, k < n ∧ y = nI (k + 1) := by
  obtain ⟨j, hj, rfl⟩ := nI_of (x := y) (fun q => h.1 (Int32.lt_trans q (by decide)))
  have h1 : ¬ j < 1 := fun q => h.1 (nI_lt q (by decide))
  have h2 : ¬ n < j := fun q => h.2 (nI_lt q hj)
  exact ⟨j - 1, by omega, by congr 1; omega⟩
theorem lift1_not {y : Int32} {n : Nat} (hn : n < 2 ^ 30) (h : ¬ (¬ y < nI 1 ∧ ¬ nI n < y)) : ¬ ∃ k : Nat, k < n ∧ y = nI (k + 1) := fun ⟨k, hk, e⟩ => h (by subst e; exact ⟨nI_nlt (by omega) (by omega), nI_nlt (by omega) (by omega)⟩)
theorem lift0 {y : Int32} {n : Nat} (hn : n < 2 ^ 30) (h : ¬ y < 0 ∧ y < nI n) : ∃ k : Nat, k < n ∧ y = nI k := by
  obtain ⟨j, hj, rfl⟩ := nI_of h.1
  exact ⟨j, (nI_ltI hj (by omega)).mp h.2, rfl⟩
theorem lift0_not {y : Int32} {n : Nat} (hn : n < 2 ^ 30) (h : ¬ (¬ y < 0 ∧ y < nI n)) : ¬ ∃ k : Nat, k < n ∧ y = nI k := fun ⟨k, hk, e⟩ => h (by subst e; exact ⟨nI_pos (by omega), nI_lt hk (by omega)⟩)
theorem tick_lift {y : Int32} (h1 : ¬ y < nI 1) (h2 : y ≤ nI 100) : ∃ k : Nat, k < 100 ∧ y = nI (k + 1) := lift1 (by decide) ⟨h1, Int32.not_lt.mpr h2⟩
set_option maxHeartbeats 4000000 in
set_option maxRecDepth 100000 in
theorem c_Pg_withdraw (y : Int32) {g cu be so ta tm lt nt : Nat} {bp : Int32} {nr : Nat} {ra : Nat → Nat} {ru lw hw : Nat → Nat → Nat} (eg : M g = some (.inr (8, [.ref (g + 1), .ref (g + 3), .ref (g + 4), .ref (g + 57), .ref (g + 59), .ref (g + 63), .ref (g + 81), .ref cu, .ref be, .int (nI so), .int (nI ta), .int (nI tm), .int (nI lt), .int (nI nt), .int bp]))) (eb : M (g + 4) = some (.inr (6, [.ref (g + 5), .int (nI nr)]))) (ea : M (g + 5) = some (.inl (ca 2, 17, .inr (.inr (.inr (.inr (oF ra))))))) (hr1 : ∀ fi, fi < nr → M (ra fi) = some (.inr (5, [.int (nI (ru fi 0)), .int (nI (ru fi 1)), .int (nI (ru fi 2)), .ref (ra fi + 1), .ref (ra fi + 2)]))) (hr2 : ∀ fi, fi < 17 → M (ra fi + 1) = some (.inl (ca 0, 3, .inl (iN (lw fi))))) (hr3 : ∀ fi, fi < 17 → M (ra fi + 2) = some (.inl (ca 0, 3, .inl (iN (hw fi))))) (hnr : nr ≤ 16) (hR : okR (g + 6) ra) (hU : okU nr ru lw hw) : gC l D ca A G y_Pg_withdraw (.code y_Pg_withdraw b_Pg_withdraw 2 (some .int)) ({ frames := 1, cells := 0, slots := 0, locals := 23 }) N M [.ref g, .int y] gm_i (fun (r : Int32) (N1 : Nat) (M1 : gm_M) => N = N1 ∧ (((¬ ∃ k : Nat, k < nr ∧ y = nI (k + 1)) ∧ M = M1 ∧ (-1) = r) ∨ (∃ (k : Nat), (k < nr ∧ y = nI (k + 1)) ∧ gm_up (gm_up M (g + 5) (.inl (ca 2, 17, .inr (.inr (.inr (.inr (oF (rot ra k nr)))))))) (g + 4) (.inr (6, [.ref (g + 5), .int (nI (nr - 1))])) = M1 ∧ nI (nr - 1) = r))) := by
  refine gm_body (by decide) (Nat.le_of_ble_eq_true rfl) (fun p e s m below meth c ls hx hb hr hts hown hlk hml hnm hP hK hN hX hS hl => ?_)
  have htl : ∀ w ∈ LW, w.before _ s = true := fun w h => hts w (List.mem_cons_of_mem _ h)
  have hown : s.vm.findClass "PacketGate" = some m.cls := hown
  have hl : lv_has ls 2 [(0, .ref g), (1, .int y)] := hl
  refine lv_aload_n hx hb d_Pg_withdraw_0 rfl (lv_at hl 0 rfl) ?_
  refine gm_get (C := R_Pg) (T := F_Pg) (n := 15) hx hb htl i_Pg hown hK hP eg rfl 2 (by decide) (htl _ k_199) (fun _ h => h) rfl d_Pg_withdraw_1 ?_
  refine lv_iload_n hx hb d_Pg_withdraw_4 rfl (lv_at hl 1 rfl) ?_
  refine gc_V (q := (R_Rb, F_Rb, 2)) (n := 1) [.int y] [] hx hb hml hown hts hK hN hX hP hS (c_Rb_has y eb (by omega)) rfl eb k_421 k_422 k_423 k_4 k_424 (by decide +kernel) ⟨by decide, by decide⟩ rfl hl.1 rfl (Nat.le_of_ble_eq_true rfl) d_Pg_withdraw_5 ⟨by decide, by decide⟩ (fun r N1 M_1 H locs hw hP hS => ?_)
  obtain ⟨rfl, hw⟩ := hw
  rcases hw with ⟨c_2, rfl, rfl⟩ | ⟨c_3, rfl, rfl⟩
  · skip
    refine W.eq (g2 := F0 m 8 ls [.int (nI 1)]) rfl ?_
    obtain ⟨k, hk, rfl⟩ := lift1 (by omega) c_2
    refine lv_if_ne (tgt := 13) hx hb d_Pg_withdraw_8 (by decide) (fun _ => ?_) (fun q => absurd q (by decide))
    refine lv_aload_n hx hb d_Pg_withdraw_13 rfl (lv_at hl 0 rfl) ?_
    refine gm_get (C := R_Pg) (T := F_Pg) (n := 15) hx hb htl i_Pg hown hK hP eg rfl 2 (by decide) (htl _ k_199) (fun _ h => h) rfl d_Pg_withdraw_14 ?_
    refine lv_iload_n hx hb d_Pg_withdraw_17 rfl (lv_at hl 1 rfl) ?_
    refine gc_V (q := (R_Rb, F_Rb, 2)) (n := 1) [.int (nI (k + 1))] [] hx hb hml hown hts hK hN hX hP hS (c_Rb_remove eb ea hr1 hr2 hr3 (by omega) hU (by omega)) rfl eb k_425 k_426 k_427 k_4 k_428 (by decide +kernel) ⟨by decide, by decide⟩ rfl hl.1 rfl (Nat.le_of_ble_eq_true rfl) d_Pg_withdraw_18 ⟨by decide, by decide⟩ (fun r N1 M_4 H locs hw hP hS => ?_)
    obtain ⟨rfl, hw⟩ := hw
    obtain rfl := hw
    have h_5 := gm_pass (k := (g + 5)) (y := .inl (ca 2, 17, .inr (.inr (.inr (.inr (oF (rot ra k nr))))))) eg (gm_ne eg ea (fun h => by cases h))
    have h_6 := gm_pass (k := (g + 5)) (y := .inl (ca 2, 17, .inr (.inr (.inr (.inr (oF (rot ra k nr))))))) eb (gm_ne eb ea (fun h => by cases h))
    have h_7 := gm_up_self M (g + 5) (.inl (ca 2, 17, .inr (.inr (.inr (.inr (oF (rot ra k nr)))))))
    have hf_8 : ∀ fi, fi < nr → (gm_up M (g + 5) (.inl (ca 2, 17, .inr (.inr (.inr (.inr (oF (rot ra k nr)))))))) (ra fi) = some (.inr (5, [.int (nI (ru fi 0)), .int (nI (ru fi 1)), .int (nI (ru fi 2)), .ref (ra fi + 1), .ref (ra fi + 2)])) := fun fi hfi => gm_pass (k := (g + 5)) (y := .inl (ca 2, 17, .inr (.inr (.inr (.inr (oF (rot ra k nr))))))) (hr1 fi hfi) (gm_ne (hr1 fi hfi) ea (fun h => by cases h))
    have hf_9 : ∀ fi, fi < 17 → (gm_up M (g + 5) (.inl (ca 2, 17, .inr (.inr (.inr (.inr (oF (rot ra k nr)))))))) (ra fi + 1) = some (.inl (ca 0, 3, .inl (iN (lw fi)))) := fun fi hfi => gm_pass (k := (g + 5)) (y := .inl (ca 2, 17, .inr (.inr (.inr (.inr (oF (rot ra k nr))))))) (hr2 fi hfi) (gm_ne (hr2 fi hfi) ea (fun h => by simp at h))
    have hf_10 : ∀ fi, fi < 17 → (gm_up M (g + 5) (.inl (ca 2, 17, .inr (.inr (.inr (.inr (oF (rot ra k nr)))))))) (ra fi + 2) = some (.inl (ca 0, 3, .inl (iN (hw fi)))) := fun fi hfi => gm_pass (k := (g + 5)) (y := .inl (ca 2, 17, .inr (.inr (.inr (.inr (oF (rot ra k nr))))))) (hr3 fi hfi) (gm_ne (hr3 fi hfi) ea (fun h => by simp at h))
    have hP : gm_P D cls A N (gm_up (gm_up M (g + 5) (.inl (ca 2, 17, .inr (.inr (.inr (.inr (oF (rot ra k nr)))))))) (g + 4) (.inr (6, [.ref (g + 5), .int (nI (nr - 1))]))) H := hP
    have h_11 := gm_pass (k := (g + 4)) (y := .inr (6, [.ref (g + 5), .int (nI (nr - 1))])) h_5 (gm_ne h_5 h_6 (fun h => by cases h))
    have h_12 := gm_pass (k := (g + 4)) (y := .inr (6, [.ref (g + 5), .int (nI (nr - 1))])) h_7 (gm_ne h_7 h_6 (fun h => by cases h))
    have h_13 := gm_up_self (gm_up M (g + 5) (.inl (ca 2, 17, .inr (.inr (.inr (.inr (oF (rot ra k nr)))))))) (g + 4) (.inr (6, [.ref (g + 5), .int (nI (nr - 1))]))
    have hf_14 : ∀ fi, fi < nr → (gm_up (gm_up M (g + 5) (.inl (ca 2, 17, .inr (.inr (.inr (.inr (oF (rot ra k nr)))))))) (g + 4) (.inr (6, [.ref (g + 5), .int (nI (nr - 1))]))) (ra fi) = some (.inr (5, [.int (nI (ru fi 0)), .int (nI (ru fi 1)), .int (nI (ru fi 2)), .ref (ra fi + 1), .ref (ra fi + 2)])) := fun fi hfi => gm_pass (k := (g + 4)) (y := .inr (6, [.ref (g + 5), .int (nI (nr - 1))])) (hf_8 fi hfi) (gm_ne (hf_8 fi hfi) h_6 (fun h => by cases h))
    have hf_15 : ∀ fi, fi < 17 → (gm_up (gm_up M (g + 5) (.inl (ca 2, 17, .inr (.inr (.inr (.inr (oF (rot ra k nr)))))))) (g + 4) (.inr (6, [.ref (g + 5), .int (nI (nr - 1))]))) (ra fi + 1) = some (.inl (ca 0, 3, .inl (iN (lw fi)))) := fun fi hfi => gm_pass (k := (g + 4)) (y := .inr (6, [.ref (g + 5), .int (nI (nr - 1))])) (hf_9 fi hfi) (gm_ne (hf_9 fi hfi) h_6 (fun h => by cases h))
    have hf_16 : ∀ fi, fi < 17 → (gm_up (gm_up M (g + 5) (.inl (ca 2, 17, .inr (.inr (.inr (.inr (oF (rot ra k nr)))))))) (g + 4) (.inr (6, [.ref (g + 5), .int (nI (nr - 1))]))) (ra fi + 2) = some (.inl (ca 0, 3, .inl (iN (hw fi)))) := fun fi hfi => gm_pass (k := (g + 4)) (y := .inr (6, [.ref (g + 5), .int (nI (nr - 1))])) (hf_10 fi hfi) (gm_ne (hf_10 fi hfi) h_6 (fun h => by cases h))
    refine W.eq (g2 := F0 m 21 ls []) rfl ?_
    refine lv_aload_n hx hb d_Pg_withdraw_21 rfl (lv_at hl 0 rfl) ?_
    refine gm_get (C := R_Pg) (T := F_Pg) (n := 15) hx hb htl i_Pg hown hK hP h_11 rfl 2 (by decide) (htl _ k_199) (fun _ h => h) rfl d_Pg_withdraw_22 ?_
    refine gm_get (C := R_Rb) (T := F_Rb) (n := 2) hx hb htl i_Rb hown hK hP h_13 rfl 1 (by decide) (htl _ k_88) (fun _ h => h) rfl d_Pg_withdraw_25 ?_
    exact gc_iret hx hb hr hlk hP hS d_Pg_withdraw_28 (by first | exact ⟨rfl, Or.inl ⟨(by exact lift1_not (by omega) (by assumption)), rfl, rfl⟩⟩ | exact ⟨rfl, Or.inr ⟨k, (by exact ⟨hk, rfl⟩), rfl, rfl⟩⟩)
  · skip
    refine W.eq (g2 := F0 m 8 ls [.int (nI 0)]) rfl ?_
    refine lv_if_ne (tgt := 13) hx hb d_Pg_withdraw_8 (by decide) (fun q => absurd q (by decide)) (fun _ => ?_)
    refine lv_iconst (v := (-1)) hx hb d_Pg_withdraw_11 (by decide) ?_
    exact gc_iret hx hb hr hlk hP hS d_Pg_withdraw_12 (by first | exact ⟨rfl, Or.inl ⟨(by exact lift1_not (by omega) (by assumption)), rfl, rfl⟩⟩ | exact ⟨rfl, Or.inr ⟨k, (by exact ⟨hk, rfl⟩), rfl, rfl⟩⟩)
set_option maxHeartbeats 4000000 in
set_option maxRecDepth 100000 in
theorem c_Pg_tick (y : Int32) {g cu be so ta tm lt nt : Nat} {bp : Int32} {nf : Nat} {fa : Nat → Nat} {fl : Nat → Nat → Nat} (eg : M g = some (.inr (8, [.ref (g + 1), .ref (g + 3), .ref (g + 4), .ref (g + 57), .ref (g + 59), .ref (g + 63), .ref (g + 81), .ref cu, .ref be, .int (nI so), .int (nI ta), .int (nI tm), .int (nI lt), .int (nI nt), .int bp]))) (ef : M (g + 63) = some (.inr (3, [.ref (g + 64), .int (nI nf)]))) (efa : M (g + 64) = some (.inl (ca 3, 16, .inr (.inr (.inr (.inr (oF fa))))))) (hf : ∀ fi, fi < 16 → M (fa fi) = some (.inr (2, [.int (nI (fl fi 0)), .int (nI (fl fi 1)), .int (nI (fl fi 2)), .int (nI (fl fi 3)), .int (nI (fl fi 4)), .int (nI (fl fi 5)), .int (nI (fl fi 6)), .int (nI (fl fi 7))]))) (hnf : nf ≤ 16) (hA : okA (g + 65) fa) (hF : okF fl) (htm : tm < 600000) (hls : ∀ i, i < nf → fl i 5 ≤ tm) : gC l D ca A G y_Pg_tick (.code y_Pg_tick b_Pg_tick 2 (some .int)) ({ frames := 2, cells := 0, slots := 0, locals := 45 }) N M [.ref g, .int y] gm_i (fun (r : Int32) (N1 : Nat) (M1 : gm_M) => N = N1 ∧ (((¬ ∃ k : Nat, k < 100 ∧ y = nI (k + 1)) ∧ M = M1 ∧ (-1) = r) ∨ (∃ (k : Nat) (fa1 : Nat → Nat) (fl1 : Nat → Nat → Nat) (n1 : Nat), (k < 100 ∧ y = nI (k + 1)) ∧ (sweep (tP (tm + (k + 1))) nf fl nf = (fl1, n1)) ∧ (n1 ≤ nf) ∧ (okA (g + 65) fa1) ∧ (okF fl1) ∧ M1 g = some (.inr (8, [.ref (g + 1), .ref (g + 3), .ref (g + 4), .ref (g + 57), .ref (g + 59), .ref (g + 63), .ref (g + 81), .ref cu, .ref be, .int (nI so), .int (nI ta), .int (nI (tm + (k + 1))), .int (nI lt), .int (nI nt), .int bp])) ∧ M1 (g + 63) = some (.inr (3, [.ref (g + 64), .int (nI n1)])) ∧ M1 (g + 64) = some (.inl (ca 3, 16, .inr (.inr (.inr (.inr (oF fa1)))))) ∧ (∀ fi, fi < 16 → M1 (fa1 fi) = some (.inr (2, [.int (nI (fl1 fi 0)), .int (nI (fl1 fi 1)), .int (nI (fl1 fi 2)), .int (nI (fl1 fi 3)), .int (nI (fl1 fi 4)), .int (nI (fl1 fi 5)), .int (nI (fl1 fi 6)), .int (nI (fl1 fi 7))]))) ∧ (∀ z, z ≠ g → z ≠ (g + 63) → z ≠ (g + 64) → M1 z = M z) ∧ nI (tm + (k + 1)) = r))) := by
  refine gm_body (by decide) (Nat.le_of_ble_eq_true rfl) (fun p e s m below meth c ls hx hb hr hts hown hlk hml hnm hP hK hN hX hS hl => ?_)
  have htl : ∀ w ∈ LW, w.before _ s = true := fun w h => hts w (List.mem_cons_of_mem _ h)
  have hown : s.vm.findClass "PacketGate" = some m.cls := hown
  have hl : lv_has ls 2 [(0, .ref g), (1, .int y)] := hl
  have hfb : ∀ i q, fl i q < 1000000 := fun i q => (hF i).1 q
  refine lv_iload_n hx hb d_Pg_tick_0 rfl (lv_at hl 1 rfl) ?_
  refine lv_iconst (v := nI 1) hx hb d_Pg_tick_1 (by decide) ?_
  refine lv_icmp_lt (tgt := 11) hx hb d_Pg_tick_2 (by decide) (fun c_1 => ?_) (fun c_1 => ?_)
  · skip
    refine lv_iconst (v := (-1)) hx hb d_Pg_tick_11 (by decide) ?_
    exact gc_iret hx hb hr hlk hP hS d_Pg_tick_12 ⟨rfl, Or.inl ⟨fun ⟨k, hk, e⟩ => (by subst e; first | exact nI_nlt (by omega) (by omega) c_1 | exact c_1 (nI_le (by omega) (by omega))), rfl, rfl⟩⟩
  · skip
    refine lv_iload_n hx hb d_Pg_tick_5 rfl (lv_at hl 1 rfl) ?_
    refine lv_bipush (v := nI 100) hx hb d_Pg_tick_6 (by decide) ?_
    refine lv_icmp_le (tgt := 13) hx hb d_Pg_tick_8 (by decide) (fun c_2 => ?_) (fun c_2 => ?_)
    · skip
      obtain ⟨k, hk, rfl⟩ := tick_lift c_1 c_2
      refine lv_aload_n hx hb d_Pg_tick_13 rfl (lv_at hl 0 rfl) ?_
      refine lv_dup hx hb d_Pg_tick_14 rfl ?_
      refine gm_get (C := R_Pg) (T := F_Pg) (n := 15) hx hb htl i_Pg hown hK hP eg rfl 11 (by decide) (htl _ k_208) (fun _ h => h) rfl d_Pg_tick_15 ?_
      refine lv_iload_n hx hb d_Pg_tick_18 rfl (lv_at hl 1 rfl) ?_
      refine lv_iadd hx hb d_Pg_tick_19 ?_
      rw [show (nI tm) + (nI (k + 1)) = nI (tm + (k + 1)) from nI_add _ _]
      refine gm_put (C := R_Pg) (T := F_Pg) (n := 15) (ty := .int) hx hb htl i_Pg t_Pg tk_Pg n_Pg hown hK hP hS eg rfl 11 (by decide) (htl _ k_208) (fun _ h => h) rfl (tk_Pg 11 (by decide)) rfl rfl (Nat.le_of_ble_eq_true rfl) d_Pg_tick_20 (fun H locs hP hS => ?_)
      have hP : gm_P D cls A N (gm_up M g (.inr (8, [.ref (g + 1), .ref (g + 3), .ref (g + 4), .ref (g + 57), .ref (g + 59), .ref (g + 63), .ref (g + 81), .ref cu, .ref be, .int (nI so), .int (nI ta), .int (nI (tm + (k + 1))), .int (nI lt), .int (nI nt), .int bp]))) H := hP
      have h_3 := gm_pass (k := g) (y := .inr (8, [.ref (g + 1), .ref (g + 3), .ref (g + 4), .ref (g + 57), .ref (g + 59), .ref (g + 63), .ref (g + 81), .ref cu, .ref be, .int (nI so), .int (nI ta), .int (nI (tm + (k + 1))), .int (nI lt), .int (nI nt), .int bp])) ef (gm_ne ef eg (fun h => by cases h))
      have h_4 := gm_pass (k := g) (y := .inr (8, [.ref (g + 1), .ref (g + 3), .ref (g + 4), .ref (g + 57), .ref (g + 59), .ref (g + 63), .ref (g + 81), .ref cu, .ref be, .int (nI so), .int (nI ta), .int (nI (tm + (k + 1))), .int (nI lt), .int (nI nt), .int bp])) efa (gm_ne efa eg (fun h => by cases h))
      have h_5 := gm_up_self M g (.inr (8, [.ref (g + 1), .ref (g + 3), .ref (g + 4), .ref (g + 57), .ref (g + 59), .ref (g + 63), .ref (g + 81), .ref cu, .ref be, .int (nI so), .int (nI ta), .int (nI (tm + (k + 1))), .int (nI lt), .int (nI nt), .int bp]))
      have hf_6 : ∀ fi, fi < 16 → (gm_up M g (.inr (8, [.ref (g + 1), .ref (g + 3), .ref (g + 4), .ref (g + 57), .ref (g + 59), .ref (g + 63), .ref (g + 81), .ref cu, .ref be, .int (nI so), .int (nI ta), .int (nI (tm + (k + 1))), .int (nI lt), .int (nI nt), .int bp]))) (fa fi) = some (.inr (2, [.int (nI (fl fi 0)), .int (nI (fl fi 1)), .int (nI (fl fi 2)), .int (nI (fl fi 3)), .int (nI (fl fi 4)), .int (nI (fl fi 5)), .int (nI (fl fi 6)), .int (nI (fl fi 7))])) := fun fi hfi => gm_pass (k := g) (y := .inr (8, [.ref (g + 1), .ref (g + 3), .ref (g + 4), .ref (g + 57), .ref (g + 59), .ref (g + 63), .ref (g + 81), .ref cu, .ref be, .int (nI so), .int (nI ta), .int (nI (tm + (k + 1))), .int (nI lt), .int (nI nt), .int bp])) (hf fi hfi) (gm_ne (hf fi hfi) eg (fun h => by cases h))
      refine lv_aload_n hx hb d_Pg_tick_23 rfl (lv_at hl 0 rfl) ?_
      refine gm_get (C := R_Pg) (T := F_Pg) (n := 15) hx hb htl i_Pg hown hK hP h_5 rfl 5 (by decide) (htl _ k_202) (fun _ h => h) rfl d_Pg_tick_24 ?_
      refine lv_aload_n hx hb d_Pg_tick_27 rfl (lv_at hl 0 rfl) ?_
      refine gm_get (C := R_Pg) (T := F_Pg) (n := 15) hx hb htl i_Pg hown hK hP h_5 rfl 11 (by decide) (htl _ k_208) (fun _ h => h) rfl d_Pg_tick_28 ?_
      refine gc_V (q := (R_Ft, F_Ft, 2)) (n := 1) [.int (nI (tm + (k + 1)))] [] hx hb hml hown hts hK hN hX hP hS (c_Ft_endTimedOut h_3 h_4 hf_6 (by omega) hA hF (by omega) (fun i hi => Nat.le_trans (hls i hi) (Nat.le_add_right _ _))) rfl h_3 k_701 k_702 k_703 k_7 k_704 (by decide +kernel) ⟨by decide, by decide⟩ rfl hl.1 rfl (Nat.le_of_ble_eq_true rfl) d_Pg_tick_31 ⟨by decide, by decide⟩ (fun r N1 M_7 H locs hw hP hS => ?_)
      obtain ⟨rfl, hw⟩ := hw
      obtain ⟨fa1v_8, fl1v_9, n1v_10, c_11, c_12, c_13, c_14, h_15, h_16, hfm_17, hfr_18⟩ := hw
      have h_19 := (hfr_18 _ (gm_ne h_5 h_3 (fun h => by cases h)) (gm_ne h_5 h_4 (fun h => by cases h))).trans h_5
      have hfb_20 : ∀ i q, fl1v_9 i q < 1000000 := fun i q => (c_14 i).1 q
      refine W.eq (g2 := F0 m 34 ls []) rfl ?_
      refine lv_aload_n hx hb d_Pg_tick_34 rfl (lv_at hl 0 rfl) ?_
      refine gm_get (C := R_Pg) (T := F_Pg) (n := 15) hx hb htl i_Pg hown hK hP h_19 rfl 11 (by decide) (htl _ k_208) (fun _ h => h) rfl d_Pg_tick_35 ?_
      exact gc_iret hx hb hr hlk hP hS d_Pg_tick_38 ⟨rfl, Or.inr ⟨k, fa1v_8, fl1v_9, n1v_10, ⟨hk, rfl⟩, c_11, c_12, c_13, c_14, h_19, h_15, h_16, hfm_17, (fun z q0 q1 q2 => (hfr_18 z q1 q2).trans ((gm_up_ne _ _ q0).trans (rfl))), rfl⟩⟩
    · skip
      refine lv_iconst (v := (-1)) hx hb d_Pg_tick_11 (by decide) ?_
      exact gc_iret hx hb hr hlk hP hS d_Pg_tick_12 ⟨rfl, Or.inl ⟨fun ⟨k, hk, e⟩ => (by subst e; first | exact nI_nlt (by omega) (by omega) c_2 | exact c_2 (nI_le (by omega) (by omega))), rfl, rfl⟩⟩
set_option maxHeartbeats 4000000 in
set_option maxRecDepth 100000 in
theorem c_Pg_emission (y : Int32) {g cu be so ta tm lt nt : Nat} {bp : Int32} {em : Nat → Nat} (eg : M g = some (.inr (8, [.ref (g + 1), .ref (g + 3), .ref (g + 4), .ref (g + 57), .ref (g + 59), .ref (g + 63), .ref (g + 81), .ref cu, .ref be, .int (nI so), .int (nI ta), .int (nI tm), .int (nI lt), .int (nI nt), .int bp]))) (eem : M (g + 81) = some (.inl (ca 0, 4, .inl (iN em)))) (hlt0 : lt < 600000) (hnt0 : nt < 600000) : gC l D ca A G y_Pg_emission (.code y_Pg_emission b_Pg_emission 2 (some .int)) ({ frames := 0, cells := 0, slots := 0, locals := 0 }) N M [.ref g, .int y] gm_i (fun (r : Int32) (N1 : Nat) (M1 : gm_M) => N = N1 ∧ (((lt = 0 ∨ ¬ ∃ k : Nat, k < 4 ∧ y = nI k) ∧ M = M1 ∧ (-1) = r) ∨ (∃ (k : Nat), (¬ lt = 0) ∧ (k < 4 ∧ y = nI k) ∧ M = M1 ∧ nI (em k) = r))) := by
  refine gm_body (by decide) (Nat.le_of_ble_eq_true rfl) (fun p e s m below meth c ls hx hb hr hts hown hlk hml hnm hP hK hN hX hS hl => ?_)
  have htl : ∀ w ∈ LW, w.before _ s = true := fun w h => hts w (List.mem_cons_of_mem _ h)
  have hown : s.vm.findClass "PacketGate" = some m.cls := hown
  have hl : lv_has ls 2 [(0, .ref g), (1, .int y)] := hl
  refine lv_aload_n hx hb d_Pg_emission_0 rfl (lv_at hl 0 rfl) ?_
  refine gm_get (C := R_Pg) (T := F_Pg) (n := 15) hx hb htl i_Pg hown hK hP eg rfl 12 (by decide) (htl _ k_209) (fun _ h => h) rfl d_Pg_emission_1 ?_
  refine lz_eq (tgt := 20) hx hb d_Pg_emission_4 (by decide) (by omega) (fun c_1 => ?_) (fun c_1 => ?_)
  · skip
    refine lv_iconst (v := (-1)) hx hb d_Pg_emission_20 (by decide) ?_
    exact gc_iret hx hb hr hlk hP hS d_Pg_emission_21 ⟨rfl, Or.inl ⟨Or.inl c_1, rfl, rfl⟩⟩
  · skip
    refine lv_iload_n hx hb d_Pg_emission_7 rfl (lv_at hl 1 rfl) ?_
    refine lv_if_lt (tgt := 20) hx hb d_Pg_emission_8 (by decide) (fun c_2 => ?_) (fun c_2 => ?_)
    · skip
      refine lv_iconst (v := (-1)) hx hb d_Pg_emission_20 (by decide) ?_
      exact gc_iret hx hb hr hlk hP hS d_Pg_emission_21 ⟨rfl, Or.inl ⟨Or.inr (lift0_not (by decide) (fun q => q.1 c_2)), rfl, rfl⟩⟩
    · skip
      refine lv_iload_n hx hb d_Pg_emission_11 rfl (lv_at hl 1 rfl) ?_
      refine lv_aload_n hx hb d_Pg_emission_12 rfl (lv_at hl 0 rfl) ?_
      refine gm_get (C := R_Pg) (T := F_Pg) (n := 15) hx hb htl i_Pg hown hK hP eg rfl 6 (by decide) (htl _ k_203) (fun _ h => h) rfl d_Pg_emission_13 ?_
      refine gm_alen (v := nI 4) hx hb hK hP 0 eem rfl rfl d_Pg_emission_16 ?_
      refine lv_icmp_lt (tgt := 22) hx hb d_Pg_emission_17 (by decide) (fun c_3 => ?_) (fun c_3 => ?_)
      · skip
        obtain ⟨k, hk, rfl⟩ := lift0 (n := 4) (by decide) ⟨c_2, c_3⟩
        refine lv_aload_n hx hb d_Pg_emission_22 rfl (lv_at hl 0 rfl) ?_
        refine gm_get (C := R_Pg) (T := F_Pg) (n := 15) hx hb htl i_Pg hown hK hP eg rfl 6 (by decide) (htl _ k_203) (fun _ h => h) rfl d_Pg_emission_23 ?_
        refine lv_iload_n hx hb d_Pg_emission_26 rfl (lv_at hl 1 rfl) ?_
        refine gz_iald hx hb hK hP 0 eem rfl (by omega) (by omega) d_Pg_emission_27 ?_
        exact gc_iret hx hb hr hlk hP hS d_Pg_emission_28 ⟨rfl, Or.inr ⟨k, c_1, ⟨hk, rfl⟩, rfl, rfl⟩⟩
      · skip
        refine lv_iconst (v := (-1)) hx hb d_Pg_emission_20 (by decide) ?_
        exact gc_iret hx hb hr hlk hP hS d_Pg_emission_21 ⟨rfl, Or.inl ⟨Or.inr (lift0_not (by decide) (fun q => c_3 q.2)), rfl, rfl⟩⟩
set_option maxHeartbeats 4000000 in
set_option maxRecDepth 100000 in
theorem c_Pg_flow (y y2 : Int32) {g cu be so ta tm lt nt : Nat} {bp : Int32} {nf : Nat} {fa : Nat → Nat} {fl : Nat → Nat → Nat} (eg : M g = some (.inr (8, [.ref (g + 1), .ref (g + 3), .ref (g + 4), .ref (g + 57), .ref (g + 59), .ref (g + 63), .ref (g + 81), .ref cu, .ref be, .int (nI so), .int (nI ta), .int (nI tm), .int (nI lt), .int (nI nt), .int bp]))) (ef : M (g + 63) = some (.inr (3, [.ref (g + 64), .int (nI nf)]))) (efa : M (g + 64) = some (.inl (ca 3, 16, .inr (.inr (.inr (.inr (oF fa))))))) (hf : ∀ fi, fi < 16 → M (fa fi) = some (.inr (2, [.int (nI (fl fi 0)), .int (nI (fl fi 1)), .int (nI (fl fi 2)), .int (nI (fl fi 3)), .int (nI (fl fi 4)), .int (nI (fl fi 5)), .int (nI (fl fi 6)), .int (nI (fl fi 7))]))) (hnf : nf ≤ 16) (hA : okA (g + 65) fa) (hF : okF fl) : gC l D ca A G y_Pg_flow (.code y_Pg_flow b_Pg_flow 3 (some .int)) ({ frames := 2, cells := 0, slots := 0, locals := 41 }) N M [.ref g, .int y, .int y2] gm_i (fun (r : Int32) (N1 : Nat) (M1 : gm_M) => N = N1 ∧ (((¬ ∃ k : Nat, k < nf ∧ y = nI k) ∧ M = M1 ∧ (-1) = r) ∨ (∃ (k : Nat), (k < nf ∧ y = nI k) ∧ (y2 = nI 0) ∧ M = M1 ∧ nI (fl k 4) = r) ∨ (∃ (k : Nat), (k < nf ∧ y = nI k) ∧ (y2 = nI 1) ∧ M = M1 ∧ nI (fl k 0) = r) ∨ (∃ (k : Nat), (k < nf ∧ y = nI k) ∧ (y2 = nI 2) ∧ M = M1 ∧ nI (fl k 1 / 256) = r) ∨ (∃ (k : Nat), (k < nf ∧ y = nI k) ∧ (y2 = nI 3) ∧ M = M1 ∧ nI (fl k 1 % 256) = r) ∨ (∃ (k : Nat), (k < nf ∧ y = nI k) ∧ (y2 = nI 4) ∧ M = M1 ∧ nI (fl k 2 / 256) = r) ∨ (∃ (k : Nat), (k < nf ∧ y = nI k) ∧ (y2 = nI 5) ∧ M = M1 ∧ nI (fl k 2 % 256) = r) ∨ (∃ (k : Nat), (k < nf ∧ y = nI k) ∧ (y2 = nI 6) ∧ M = M1 ∧ nI (fl k 3) = r) ∨ (∃ (k : Nat), (k < nf ∧ y = nI k) ∧ (y2 = nI 7) ∧ M = M1 ∧ nI (fl k 5) = r) ∨ (∃ (k : Nat), (k < nf ∧ y = nI k) ∧ (y2 < 0 ∨ nI 7 < y2) ∧ M = M1 ∧ (-1) = r))) := by
  refine gm_body (by decide) (Nat.le_of_ble_eq_true rfl) (fun p e s m below meth c ls hx hb hr hts hown hlk hml hnm hP hK hN hX hS hl => ?_)
  have htl : ∀ w ∈ LW, w.before _ s = true := fun w h => hts w (List.mem_cons_of_mem _ h)
  have hown : s.vm.findClass "PacketGate" = some m.cls := hown
  have hl : lv_has ls 3 [(0, .ref g), (1, .int y), (2, .int y2)] := hl
  have hfb : ∀ i q, fl i q < 1000000 := fun i q => (hF i).1 q
  refine lv_aload_n hx hb d_Pg_flow_0 rfl (lv_at hl 0 rfl) ?_
  refine gm_get (C := R_Pg) (T := F_Pg) (n := 15) hx hb htl i_Pg hown hK hP eg rfl 5 (by decide) (htl _ k_202) (fun _ h => h) rfl d_Pg_flow_1 ?_
  refine lv_iload_n hx hb d_Pg_flow_4 rfl (lv_at hl 1 rfl) ?_
  refine gc_V (q := (R_Ft, F_Ft, 2)) (n := 1) [.int y] [] hx hb hml hown hts hK hN hX hP hS (c_Ft_has y ef efa hf (by omega) hA hF) rfl ef k_719 k_720 k_721 k_7 k_722 (by decide +kernel) ⟨by decide, by decide⟩ rfl hl.1 rfl (Nat.le_of_ble_eq_true rfl) d_Pg_flow_5 ⟨by decide, by decide⟩ (fun r N1 M_1 H locs hw hP hS => ?_)
  obtain ⟨rfl, hw⟩ := hw
  rcases hw with ⟨c_2, rfl, rfl⟩ | ⟨c_3, rfl, rfl⟩
  · skip
    refine W.eq (g2 := F0 m 8 ls [.int (nI 1)]) rfl ?_
    obtain ⟨k, hk, rfl⟩ := lift0 (by omega) c_2
    refine lv_if_ne (tgt := 13) hx hb d_Pg_flow_8 (by decide) (fun _ => ?_) (fun q => absurd q (by decide))
    refine lv_aload_n hx hb d_Pg_flow_13 rfl (lv_at hl 0 rfl) ?_
    refine gm_get (C := R_Pg) (T := F_Pg) (n := 15) hx hb htl i_Pg hown hK hP eg rfl 5 (by decide) (htl _ k_202) (fun _ h => h) rfl d_Pg_flow_14 ?_
    refine lv_iload_n hx hb d_Pg_flow_17 rfl (lv_at hl 1 rfl) ?_
    refine gc_V (q := (R_Ft, F_Ft, 2)) (n := 1) [.int (nI k)] [] hx hb hml hown hts hK hN hX hP hS (c_Ft_get ef efa hf (by omega) hA hF (by omega)) rfl ef k_571 k_572 k_573 k_7 k_574 (by decide +kernel) ⟨by decide, by decide⟩ rfl hl.1 rfl (Nat.le_of_ble_eq_true rfl) d_Pg_flow_18 ⟨by decide, by decide⟩ (fun r N1 M_4 H locs hw hP hS => ?_)
    obtain ⟨rfl, hw⟩ := hw
    obtain ⟨rfl, rfl⟩ := hw
    refine W.eq (g2 := F0 m 21 ls [.ref (fa k)]) rfl ?_
    refine lv_iload_n hx hb d_Pg_flow_21 rfl (lv_at hl 2 rfl) ?_
    refine gc_V (q := (R_Fl, F_Fl, 8)) (n := 1) [.int y2] [] hx hb hml hown hts hK hN hX hP hS (c_Fl_fieldOrRefused y2 (hf k (by omega)) ((hF k).2.2.1) ((hF k).2.2.2.1)) rfl (hf k (by omega)) k_723 k_724 k_725 k_8 k_726 (by decide +kernel) ⟨by decide, by decide⟩ rfl hl.1 rfl (Nat.le_of_ble_eq_true rfl) d_Pg_flow_22 ⟨by decide, by decide⟩ (fun r N1 M_5 H locs hw hP hS => ?_)
    obtain ⟨rfl, hw⟩ := hw
    rcases hw with ⟨c_6, rfl, rfl⟩ | ⟨c_7, rfl, rfl⟩ | ⟨c_8, rfl, rfl⟩ | ⟨c_9, rfl, rfl⟩ | ⟨c_10, rfl, rfl⟩ | ⟨c_11, rfl, rfl⟩ | ⟨c_12, rfl, rfl⟩ | ⟨c_13, rfl, rfl⟩ | ⟨c_14, rfl, rfl⟩
    · skip
      refine W.eq (g2 := F0 m 25 ls [.int (nI (fl k 4))]) rfl ?_
      exact gc_iret hx hb hr hlk hP hS d_Pg_flow_25 ⟨rfl, Or.inr (Or.inl ⟨k, ⟨hk, rfl⟩, c_6, rfl, rfl⟩)⟩
    · skip
      refine W.eq (g2 := F0 m 25 ls [.int (nI (fl k 0))]) rfl ?_
      exact gc_iret hx hb hr hlk hP hS d_Pg_flow_25 ⟨rfl, Or.inr (Or.inr (Or.inl ⟨k, ⟨hk, rfl⟩, c_7, rfl, rfl⟩))⟩
    · skip
      refine W.eq (g2 := F0 m 25 ls [.int (nI ((fl k 1) / 256))]) rfl ?_
      exact gc_iret hx hb hr hlk hP hS d_Pg_flow_25 ⟨rfl, Or.inr (Or.inr (Or.inr (Or.inl ⟨k, ⟨hk, rfl⟩, c_8, rfl, rfl⟩)))⟩
    · skip
      refine W.eq (g2 := F0 m 25 ls [.int (nI ((fl k 1) % 256))]) rfl ?_
      exact gc_iret hx hb hr hlk hP hS d_Pg_flow_25 ⟨rfl, Or.inr (Or.inr (Or.inr (Or.inr (Or.inl ⟨k, ⟨hk, rfl⟩, c_9, rfl, rfl⟩))))⟩
    · skip
      refine W.eq (g2 := F0 m 25 ls [.int (nI ((fl k 2) / 256))]) rfl ?_
      exact gc_iret hx hb hr hlk hP hS d_Pg_flow_25 ⟨rfl, Or.inr (Or.inr (Or.inr (Or.inr (Or.inr (Or.inl ⟨k, ⟨hk, rfl⟩, c_10, rfl, rfl⟩)))))⟩
    · skip
      refine W.eq (g2 := F0 m 25 ls [.int (nI ((fl k 2) % 256))]) rfl ?_
      exact gc_iret hx hb hr hlk hP hS d_Pg_flow_25 ⟨rfl, Or.inr (Or.inr (Or.inr (Or.inr (Or.inr (Or.inr (Or.inl ⟨k, ⟨hk, rfl⟩, c_11, rfl, rfl⟩))))))⟩
    · skip
      refine W.eq (g2 := F0 m 25 ls [.int (nI (fl k 3))]) rfl ?_
      exact gc_iret hx hb hr hlk hP hS d_Pg_flow_25 ⟨rfl, Or.inr (Or.inr (Or.inr (Or.inr (Or.inr (Or.inr (Or.inr (Or.inl ⟨k, ⟨hk, rfl⟩, c_12, rfl, rfl⟩)))))))⟩
    · skip
      refine W.eq (g2 := F0 m 25 ls [.int (nI (fl k 5))]) rfl ?_
      exact gc_iret hx hb hr hlk hP hS d_Pg_flow_25 ⟨rfl, Or.inr (Or.inr (Or.inr (Or.inr (Or.inr (Or.inr (Or.inr (Or.inr (Or.inl ⟨k, ⟨hk, rfl⟩, c_13, rfl, rfl⟩))))))))⟩
    · skip
      refine W.eq (g2 := F0 m 25 ls [.int (-1)]) rfl ?_
      exact gc_iret hx hb hr hlk hP hS d_Pg_flow_25 ⟨rfl, Or.inr (Or.inr (Or.inr (Or.inr (Or.inr (Or.inr (Or.inr (Or.inr (Or.inr ⟨k, ⟨hk, rfl⟩, c_14, rfl, rfl⟩))))))))⟩
  · skip
    refine W.eq (g2 := F0 m 8 ls [.int (nI 0)]) rfl ?_
    refine lv_if_ne (tgt := 13) hx hb d_Pg_flow_8 (by decide) (fun q => absurd q (by decide)) (fun _ => ?_)
    refine lv_iconst (v := (-1)) hx hb d_Pg_flow_11 (by decide) ?_
    exact gc_iret hx hb hr hlk hP hS d_Pg_flow_12 ⟨rfl, Or.inl ⟨lift0_not (by omega) c_3, rfl, rfl⟩⟩
set_option maxHeartbeats 4000000 in
set_option maxRecDepth 100000 in
theorem c_Pg_count (y : Int32) {g cu be so ta tm lt nt : Nat} {bp : Int32} {t : List Nat} {nr : Nat} {ne : Nat} {nf : Nat} {fa : Nat → Nat} {cn cs ct ce : Nat} {cb : Int32} {fl : Nat → Nat → Nat} (eg : M g = some (.inr (8, [.ref (g + 1), .ref (g + 3), .ref (g + 4), .ref (g + 57), .ref (g + 59), .ref (g + 63), .ref (g + 81), .ref cu, .ref be, .int (nI so), .int (nI ta), .int (nI tm), .int (nI lt), .int (nI nt), .int bp]))) (el : M (g + 1) = some (.inr (4, [.ref (g + 2), .int (nI t.length)]))) (eb : M (g + 4) = some (.inr (6, [.ref (g + 5), .int (nI nr)]))) (ex0 : M (g + 59) = some (.inr (1, [.ref (g + 60), .ref (g + 61), .ref (g + 62), .int (nI ne)]))) (ef : M (g + 63) = some (.inr (3, [.ref (g + 64), .int (nI nf)]))) (efa : M (g + 64) = some (.inl (ca 3, 16, .inr (.inr (.inr (.inr (oF fa))))))) (ecu : M cu = some (.inr (0, [.int (nI cn), .int (nI cs), .int (nI ct), .int (nI ce), .int cb]))) (htl : t.length ≤ 40) (hne : ne ≤ 4) (hf : ∀ fi, fi < 16 → M (fa fi) = some (.inr (2, [.int (nI (fl fi 0)), .int (nI (fl fi 1)), .int (nI (fl fi 2)), .int (nI (fl fi 3)), .int (nI (fl fi 4)), .int (nI (fl fi 5)), .int (nI (fl fi 6)), .int (nI (fl fi 7))]))) (hnf : nf ≤ 16) (hA : okA (g + 65) fa) (hF : okF fl) : gC l D ca A G y_Pg_count (.code y_Pg_count b_Pg_count 2 (some .int)) ({ frames := 2, cells := 0, slots := 0, locals := 46 }) N M [.ref g, .int y] gm_i (fun (r : Int32) (N1 : Nat) (M1 : gm_M) => N = N1 ∧ (((y = nI 0) ∧ M = M1 ∧ nI nr = r) ∨ ((y = nI 1) ∧ M = M1 ∧ nI nf = r) ∨ ((y = nI 2) ∧ M = M1 ∧ nI ne = r) ∨ ((y = nI 3) ∧ M = M1 ∧ nI (mM fl nf) = r) ∨ ((y = nI 4) ∧ M = M1 ∧ nI lt = r) ∨ ((y = nI 5) ∧ M = M1 ∧ nI nt = r) ∨ ((y = nI 6) ∧ M = M1 ∧ nI tm = r) ∨ ((y = nI 7) ∧ M = M1 ∧ nI cn = r) ∨ ((y = nI 8) ∧ M = M1 ∧ nI cs = r) ∨ ((y = nI 9) ∧ M = M1 ∧ nI ct = r) ∨ ((y = nI 10) ∧ M = M1 ∧ nI t.length = r) ∨ ((y = nI 11) ∧ M = M1 ∧ bp = r) ∨ ((y < 0 ∨ nI 11 < y) ∧ M = M1 ∧ (-1) = r))) := by
  refine gm_body (by decide) (Nat.le_of_ble_eq_true rfl) (fun p e s m below meth c ls hx hb hr hts hown hlk hml hnm hP hK hN hX hS hl => ?_)
  have htl : ∀ w ∈ LW, w.before _ s = true := fun w h => hts w (List.mem_cons_of_mem _ h)
  have hown : s.vm.findClass "PacketGate" = some m.cls := hown
  have hl : lv_has ls 2 [(0, .ref g), (1, .int y)] := hl
  have hfb : ∀ i q, fl i q < 1000000 := fun i q => (hF i).1 q
  refine lv_iload_n hx hb d_Pg_count_0 rfl (lv_at hl 1 rfl) ?_
  rcases sw_split y 12 (by decide) with ⟨hout, hout2⟩ | ⟨kq, hkq, rfl⟩
  · skip
    refine lv_tableOut (tgt := 148) hx hb d_Pg_count_1 hout (by decide) ?_
    refine lv_iconst (v := (-1)) hx hb d_Pg_count_148 (by decide) ?_
    exact gc_iret hx hb hr hlk hP hS d_Pg_count_149 ⟨rfl, Or.inr (Or.inr (Or.inr (Or.inr (Or.inr (Or.inr (Or.inr (Or.inr (Or.inr (Or.inr (Or.inr (Or.inr ⟨hout2, rfl, rfl⟩)))))))))))⟩
  · skip
    rcases (show kq = 0 ∨ kq = 1 ∨ kq = 2 ∨ kq = 3 ∨ kq = 4 ∨ kq = 5 ∨ kq = 6 ∨ kq = 7 ∨ kq = 8 ∨ kq = 9 ∨ kq = 10 ∨ kq = 11 by omega) with rfl | rfl | rfl | rfl | rfl | rfl | rfl | rfl | rfl | rfl | rfl | rfl
    · skip
      refine lv_tableIn (off := 63) (tgt := 64) hx hb d_Pg_count_1 (by decide) (by decide) (by decide) (by decide) ?_
      refine lv_aload_n hx hb d_Pg_count_64 rfl (lv_at hl 0 rfl) ?_
      refine gm_get (C := R_Pg) (T := F_Pg) (n := 15) hx hb htl i_Pg hown hK hP eg rfl 2 (by decide) (htl _ k_199) (fun _ h => h) rfl d_Pg_count_65 ?_
      refine gm_get (C := R_Rb) (T := F_Rb) (n := 2) hx hb htl i_Rb hown hK hP eb rfl 1 (by decide) (htl _ k_88) (fun _ h => h) rfl d_Pg_count_68 ?_
      exact gc_iret hx hb hr hlk hP hS d_Pg_count_71 ⟨rfl, Or.inl ⟨rfl, rfl, rfl⟩⟩
    · skip
      refine lv_tableIn (off := 71) (tgt := 72) hx hb d_Pg_count_1 (by decide) (by decide) (by decide) (by decide) ?_
      refine lv_aload_n hx hb d_Pg_count_72 rfl (lv_at hl 0 rfl) ?_
      refine gm_get (C := R_Pg) (T := F_Pg) (n := 15) hx hb htl i_Pg hown hK hP eg rfl 5 (by decide) (htl _ k_202) (fun _ h => h) rfl d_Pg_count_73 ?_
      refine gm_get (C := R_Ft) (T := F_Ft) (n := 2) hx hb htl i_Ft hown hK hP ef rfl 1 (by decide) (htl _ k_160) (fun _ h => h) rfl d_Pg_count_76 ?_
      exact gc_iret hx hb hr hlk hP hS d_Pg_count_79 ⟨rfl, Or.inr (Or.inl ⟨rfl, rfl, rfl⟩)⟩
    · skip
      refine lv_tableIn (off := 79) (tgt := 80) hx hb d_Pg_count_1 (by decide) (by decide) (by decide) (by decide) ?_
      refine lv_aload_n hx hb d_Pg_count_80 rfl (lv_at hl 0 rfl) ?_
      refine gm_get (C := R_Pg) (T := F_Pg) (n := 15) hx hb htl i_Pg hown hK hP eg rfl 4 (by decide) (htl _ k_201) (fun _ h => h) rfl d_Pg_count_81 ?_
      refine gm_get (C := R_Ex) (T := F_Ex) (n := 4) hx hb htl i_Ex hown hK hP ex0 rfl 3 (by decide) (htl _ k_104) (fun _ h => h) rfl d_Pg_count_84 ?_
      exact gc_iret hx hb hr hlk hP hS d_Pg_count_87 ⟨rfl, Or.inr (Or.inr (Or.inl ⟨rfl, rfl, rfl⟩))⟩
    · skip
      refine lv_tableIn (off := 87) (tgt := 88) hx hb d_Pg_count_1 (by decide) (by decide) (by decide) (by decide) ?_
      refine lv_aload_n hx hb d_Pg_count_88 rfl (lv_at hl 0 rfl) ?_
      refine gm_get (C := R_Pg) (T := F_Pg) (n := 15) hx hb htl i_Pg hown hK hP eg rfl 5 (by decide) (htl _ k_202) (fun _ h => h) rfl d_Pg_count_89 ?_
      refine gc_V (q := (R_Ft, F_Ft, 2)) (n := 0) [] [] hx hb hml hown hts hK hN hX hP hS (c_Ft_mappingsMade ef efa hf (by omega) hA hF) rfl ef k_733 k_734 k_735 k_7 k_736 (by decide +kernel) ⟨by decide, by decide⟩ rfl hl.1 rfl (Nat.le_of_ble_eq_true rfl) d_Pg_count_92 ⟨by decide, by decide⟩ (fun r N1 M_1 H locs hw hP hS => ?_)
      obtain ⟨rfl, hw⟩ := hw
      obtain ⟨rfl, rfl⟩ := hw
      refine W.eq (g2 := F0 m 95 ls [.int (nI (mM fl nf))]) rfl ?_
      exact gc_iret hx hb hr hlk hP hS d_Pg_count_95 ⟨rfl, Or.inr (Or.inr (Or.inr (Or.inl ⟨rfl, rfl, rfl⟩)))⟩
    · skip
      refine lv_tableIn (off := 95) (tgt := 96) hx hb d_Pg_count_1 (by decide) (by decide) (by decide) (by decide) ?_
      refine lv_aload_n hx hb d_Pg_count_96 rfl (lv_at hl 0 rfl) ?_
      refine gm_get (C := R_Pg) (T := F_Pg) (n := 15) hx hb htl i_Pg hown hK hP eg rfl 12 (by decide) (htl _ k_209) (fun _ h => h) rfl d_Pg_count_97 ?_
      exact gc_iret hx hb hr hlk hP hS d_Pg_count_100 ⟨rfl, Or.inr (Or.inr (Or.inr (Or.inr (Or.inl ⟨rfl, rfl, rfl⟩))))⟩
    · skip
      refine lv_tableIn (off := 100) (tgt := 101) hx hb d_Pg_count_1 (by decide) (by decide) (by decide) (by decide) ?_
      refine lv_aload_n hx hb d_Pg_count_101 rfl (lv_at hl 0 rfl) ?_
      refine gm_get (C := R_Pg) (T := F_Pg) (n := 15) hx hb htl i_Pg hown hK hP eg rfl 13 (by decide) (htl _ k_210) (fun _ h => h) rfl d_Pg_count_102 ?_
      exact gc_iret hx hb hr hlk hP hS d_Pg_count_105 ⟨rfl, Or.inr (Or.inr (Or.inr (Or.inr (Or.inr (Or.inl ⟨rfl, rfl, rfl⟩)))))⟩
    · skip
      refine lv_tableIn (off := 105) (tgt := 106) hx hb d_Pg_count_1 (by decide) (by decide) (by decide) (by decide) ?_
      refine lv_aload_n hx hb d_Pg_count_106 rfl (lv_at hl 0 rfl) ?_
      refine gm_get (C := R_Pg) (T := F_Pg) (n := 15) hx hb htl i_Pg hown hK hP eg rfl 11 (by decide) (htl _ k_208) (fun _ h => h) rfl d_Pg_count_107 ?_
      exact gc_iret hx hb hr hlk hP hS d_Pg_count_110 ⟨rfl, Or.inr (Or.inr (Or.inr (Or.inr (Or.inr (Or.inr (Or.inl ⟨rfl, rfl, rfl⟩))))))⟩
    · skip
      refine lv_tableIn (off := 110) (tgt := 111) hx hb d_Pg_count_1 (by decide) (by decide) (by decide) (by decide) ?_
      refine lv_aload_n hx hb d_Pg_count_111 rfl (lv_at hl 0 rfl) ?_
      refine gm_get (C := R_Pg) (T := F_Pg) (n := 15) hx hb htl i_Pg hown hK hP eg rfl 7 (by decide) (htl _ k_204) (fun _ h => h) rfl d_Pg_count_112 ?_
      refine gm_get (C := R_As) (T := F_As) (n := 5) hx hb htl i_As hown hK hP ecu rfl 0 (by decide) (htl _ k_177) (fun _ h => h) rfl d_Pg_count_115 ?_
      exact gc_iret hx hb hr hlk hP hS d_Pg_count_118 ⟨rfl, Or.inr (Or.inr (Or.inr (Or.inr (Or.inr (Or.inr (Or.inr (Or.inl ⟨rfl, rfl, rfl⟩)))))))⟩
    · skip
      refine lv_tableIn (off := 118) (tgt := 119) hx hb d_Pg_count_1 (by decide) (by decide) (by decide) (by decide) ?_
      refine lv_aload_n hx hb d_Pg_count_119 rfl (lv_at hl 0 rfl) ?_
      refine gm_get (C := R_Pg) (T := F_Pg) (n := 15) hx hb htl i_Pg hown hK hP eg rfl 7 (by decide) (htl _ k_204) (fun _ h => h) rfl d_Pg_count_120 ?_
      refine gm_get (C := R_As) (T := F_As) (n := 5) hx hb htl i_As hown hK hP ecu rfl 1 (by decide) (htl _ k_179) (fun _ h => h) rfl d_Pg_count_123 ?_
      exact gc_iret hx hb hr hlk hP hS d_Pg_count_126 ⟨rfl, Or.inr (Or.inr (Or.inr (Or.inr (Or.inr (Or.inr (Or.inr (Or.inr (Or.inl ⟨rfl, rfl, rfl⟩))))))))⟩
    · skip
      refine lv_tableIn (off := 126) (tgt := 127) hx hb d_Pg_count_1 (by decide) (by decide) (by decide) (by decide) ?_
      refine lv_aload_n hx hb d_Pg_count_127 rfl (lv_at hl 0 rfl) ?_
      refine gm_get (C := R_Pg) (T := F_Pg) (n := 15) hx hb htl i_Pg hown hK hP eg rfl 7 (by decide) (htl _ k_204) (fun _ h => h) rfl d_Pg_count_128 ?_
      refine gm_get (C := R_As) (T := F_As) (n := 5) hx hb htl i_As hown hK hP ecu rfl 2 (by decide) (htl _ k_181) (fun _ h => h) rfl d_Pg_count_131 ?_
      exact gc_iret hx hb hr hlk hP hS d_Pg_count_134 ⟨rfl, Or.inr (Or.inr (Or.inr (Or.inr (Or.inr (Or.inr (Or.inr (Or.inr (Or.inr (Or.inl ⟨rfl, rfl, rfl⟩)))))))))⟩
    · skip
      refine lv_tableIn (off := 134) (tgt := 135) hx hb d_Pg_count_1 (by decide) (by decide) (by decide) (by decide) ?_
      refine lv_aload_n hx hb d_Pg_count_135 rfl (lv_at hl 0 rfl) ?_
      refine gm_get (C := R_Pg) (T := F_Pg) (n := 15) hx hb htl i_Pg hown hK hP eg rfl 0 (by decide) (htl _ k_197) (fun _ h => h) rfl d_Pg_count_136 ?_
      refine gm_get (C := R_Li) (T := F_Li) (n := 2) hx hb htl i_Li hown hK hP el rfl 1 (by decide) (htl _ k_33) (fun _ h => h) rfl d_Pg_count_139 ?_
      exact gc_iret hx hb hr hlk hP hS d_Pg_count_142 ⟨rfl, Or.inr (Or.inr (Or.inr (Or.inr (Or.inr (Or.inr (Or.inr (Or.inr (Or.inr (Or.inr (Or.inl ⟨rfl, rfl, rfl⟩))))))))))⟩
    · skip
      refine lv_tableIn (off := 142) (tgt := 143) hx hb d_Pg_count_1 (by decide) (by decide) (by decide) (by decide) ?_
      refine lv_aload_n hx hb d_Pg_count_143 rfl (lv_at hl 0 rfl) ?_
      refine gm_get (C := R_Pg) (T := F_Pg) (n := 15) hx hb htl i_Pg hown hK hP eg rfl 14 (by decide) (htl _ k_211) (fun _ h => h) rfl d_Pg_count_144 ?_
      exact gc_iret hx hb hr hlk hP hS d_Pg_count_147 ⟨rfl, Or.inr (Or.inr (Or.inr (Or.inr (Or.inr (Or.inr (Or.inr (Or.inr (Or.inr (Or.inr (Or.inr (Or.inl ⟨rfl, rfl, rfl⟩)))))))))))⟩
end C21
