section C16
variable {l : Launch} {D : va_G} {ca : Nat → ClassId} {A : Nat → Prop} {G : gG} {N : Nat} {M : gm_M}

/-- a packet matches a rule -/
def mat (dr po : Nat) (lw hw : Nat → Nat) (d pr s t : Nat) : Prop := (dr = 2 ∨ dr = d) ∧ (po = 3 ∨ po = pr) ∧ (lw 0 ≤ s / 256 ∧ s / 256 ≤ hw 0) ∧ (lw 1 ≤ t / 256 ∧ t / 256 ≤ hw 1) ∧ lw 2 ≤ t % 256 ∧ t % 256 ≤ hw 2
/-- the text of a range -/
def rgx (a b : Nat) : List Nat := if a = 0 ∧ b = 255 then [42] else if a = b then digs a else digs a ++ [45] ++ digs b
theorem digs_len (v : Nat) : (digs v).length ≤ 3 := by unfold digs; split <;> (try split) <;> simp
theorem rgx_len (a b : Nat) : (rgx a b).length ≤ 7 := by
  have h1 := digs_len a
  have h2 := digs_len b
  unfold rgx; split
  · simp
  · split
    · omega
    · simp only [List.length_append, List.length_singleton]; omega
/-- a rule's text -/
def rtx (a d q : Nat) (lw hw : Nat → Nat) : List Nat := [tc 1 a, tc 2 d, tc 3 q] ++ rgx (lw 0) (hw 0) ++ [44] ++ rgx (lw 1) (hw 1) ++ [44] ++ rgx (lw 2) (hw 2)
set_option maxHeartbeats 4000000 in
set_option maxRecDepth 100000 in
theorem c_Ru_setRange {x u v : Nat} {lw hw : Nat → Nat} {wh a b : Nat} {a0 a1 a2 : Int32} (e1 : M x = some (.inr (5, [.int a0, .int a1, .int a2, .ref u, .ref v]))) (e2 : M u = some (.inl (ca 0, 3, .inl (iN lw)))) (e3 : M v = some (.inl (ca 0, 3, .inl (iN hw)))) (huv : u ≠ v) (hwh : wh < 3) : gC l D ca A G y_Ru_setRange (.code y_Ru_setRange b_Ru_setRange 4 none) ({ frames := 0, cells := 0, slots := 0, locals := 0 }) N M [.ref x, .int (nI wh), .int (nI a), .int (nI b)] gm_v (fun (_ : Unit) (N1 : Nat) (M1 : gm_M) => N = N1 ∧ gm_up (gm_up M u (.inl (ca 0, 3, .inl (iN (va_up lw wh a))))) v (.inl (ca 0, 3, .inl (iN (va_up hw wh b)))) = M1) := by
  refine gm_body (by decide) (Nat.le_of_ble_eq_true rfl) (fun p e s m below meth c ls hx hb hr hts hown hlk hml hnm hP hK hN hX hS hl => ?_)
  have htl : ∀ w ∈ LW, w.before _ s = true := fun w h => hts w (List.mem_cons_of_mem _ h)
  have hown : s.vm.findClass "PacketGate$Rule" = some m.cls := hown
  have hl : lv_has ls 4 [(0, .ref x), (1, .int (nI wh)), (2, .int (nI a)), (3, .int (nI b))] := hl
  refine lv_aload_n hx hb d_Ru_setRange_0 rfl (lv_at hl 0 rfl) ?_
  refine gm_get (C := R_Ru) (T := F_Ru) (n := 5) hx hb htl i_Ru hown hK hP e1 rfl 3 (by decide) (htl _ k_72) (fun _ h => h) rfl d_Ru_setRange_1 ?_
  refine lv_iload_n hx hb d_Ru_setRange_4 rfl (lv_at hl 1 rfl) ?_
  refine lv_iload_n hx hb d_Ru_setRange_5 rfl (lv_at hl 2 rfl) ?_
  refine gz_iast hx hb hK hP hS 0 e2 rfl (by omega) (by omega) d_Ru_setRange_6 (fun H locs hP hS => ?_)
  have hP : gm_P D cls A N (gm_up M u (.inl (ca 0, 3, .inl (iN (va_up lw wh a))))) H := hP
  have h_1 := gm_pass (k := u) (y := .inl (ca 0, 3, .inl (iN (va_up lw wh a)))) e1 (gm_ne e1 e2 (fun h => by cases h))
  have h_2 := gm_pass (k := u) (y := .inl (ca 0, 3, .inl (iN (va_up lw wh a)))) e3 (Ne.symm huv)
  have h_3 := gm_up_self M u (.inl (ca 0, 3, .inl (iN (va_up lw wh a))))
  refine lv_aload_n hx hb d_Ru_setRange_7 rfl (lv_at hl 0 rfl) ?_
  refine gm_get (C := R_Ru) (T := F_Ru) (n := 5) hx hb htl i_Ru hown hK hP h_1 rfl 4 (by decide) (htl _ k_73) (fun _ h => h) rfl d_Ru_setRange_8 ?_
  refine lv_iload_n hx hb d_Ru_setRange_11 rfl (lv_at hl 1 rfl) ?_
  refine lv_iload_n hx hb d_Ru_setRange_12 rfl (lv_at hl 3 rfl) ?_
  refine gz_iast hx hb hK hP hS 0 h_2 rfl (by omega) (by omega) d_Ru_setRange_13 (fun H locs hP hS => ?_)
  have hP : gm_P D cls A N (gm_up (gm_up M u (.inl (ca 0, 3, .inl (iN (va_up lw wh a))))) v (.inl (ca 0, 3, .inl (iN (va_up hw wh b))))) H := hP
  have h_4 := gm_pass (k := v) (y := .inl (ca 0, 3, .inl (iN (va_up hw wh b)))) h_1 (gm_ne h_1 h_2 (fun h => by cases h))
  have h_5 := gm_pass (k := v) (y := .inl (ca 0, 3, .inl (iN (va_up hw wh b)))) h_3 huv
  have h_6 := gm_up_self (gm_up M u (.inl (ca 0, 3, .inl (iN (va_up lw wh a))))) v (.inl (ca 0, 3, .inl (iN (va_up hw wh b))))
  exact gc_vret hx hb hr hlk hP hS d_Ru_setRange_14 ⟨rfl, rfl⟩
set_option maxHeartbeats 4000000 in
set_option maxRecDepth 100000 in
theorem c_Ru_contains {x u v : Nat} {lw hw : Nat → Nat} {wh k : Nat} {a0 a1 a2 : Int32} (e1 : M x = some (.inr (5, [.int a0, .int a1, .int a2, .ref u, .ref v]))) (e2 : M u = some (.inl (ca 0, 3, .inl (iN lw)))) (e3 : M v = some (.inl (ca 0, 3, .inl (iN hw)))) (hlw : ∀ q, lw q ≤ 255) (hhw : ∀ q, hw q ≤ 255) (hwh : wh < 3) (hk : k < 65536) : gC l D ca A G y_Ru_contains (.code y_Ru_contains b_Ru_contains 3 (some .boolean)) ({ frames := 0, cells := 0, slots := 0, locals := 0 }) N M [.ref x, .int (nI wh), .int (nI k)] gm_i (fun (r : Int32) (N1 : Nat) (M1 : gm_M) => N = N1 ∧ (((lw wh ≤ k ∧ k ≤ hw wh) ∧ M = M1 ∧ nI 1 = r) ∨ ((¬ (lw wh ≤ k ∧ k ≤ hw wh)) ∧ M = M1 ∧ nI 0 = r))) := by
  refine gm_body (by decide) (Nat.le_of_ble_eq_true rfl) (fun p e s m below meth c ls hx hb hr hts hown hlk hml hnm hP hK hN hX hS hl => ?_)
  have htl : ∀ w ∈ LW, w.before _ s = true := fun w h => hts w (List.mem_cons_of_mem _ h)
  have hown : s.vm.findClass "PacketGate$Rule" = some m.cls := hown
  have hl : lv_has ls 3 [(0, .ref x), (1, .int (nI wh)), (2, .int (nI k))] := hl
  refine lv_aload_n hx hb d_Ru_contains_0 rfl (lv_at hl 0 rfl) ?_
  refine gm_get (C := R_Ru) (T := F_Ru) (n := 5) hx hb htl i_Ru hown hK hP e1 rfl 3 (by decide) (htl _ k_72) (fun _ h => h) rfl d_Ru_contains_1 ?_
  refine lv_iload_n hx hb d_Ru_contains_4 rfl (lv_at hl 1 rfl) ?_
  refine gz_iald hx hb hK hP 0 e2 rfl (by omega) (by omega) d_Ru_contains_5 ?_
  have b_1 := hlw wh
  refine lv_iload_n hx hb d_Ru_contains_6 rfl (lv_at hl 2 rfl) ?_
  refine ln_gt (tgt := 24) hx hb d_Ru_contains_7 (by decide) (by omega) (by omega) (fun c_2 => ?_) (fun c_2 => ?_)
  · skip
    refine lv_iconst (v := nI 0) hx hb d_Ru_contains_24 (by decide) ?_
    exact gc_zret hx hb hr hlk hP hS d_Ru_contains_25 rfl (by first | exact ⟨rfl, Or.inl ⟨(by first | assumption | omega), rfl, rfl⟩⟩ | exact ⟨rfl, Or.inr ⟨(by first | assumption | omega), rfl, rfl⟩⟩)
  · skip
    refine lv_iload_n hx hb d_Ru_contains_10 rfl (lv_at hl 2 rfl) ?_
    refine lv_aload_n hx hb d_Ru_contains_11 rfl (lv_at hl 0 rfl) ?_
    refine gm_get (C := R_Ru) (T := F_Ru) (n := 5) hx hb htl i_Ru hown hK hP e1 rfl 4 (by decide) (htl _ k_73) (fun _ h => h) rfl d_Ru_contains_12 ?_
    refine lv_iload_n hx hb d_Ru_contains_15 rfl (lv_at hl 1 rfl) ?_
    refine gz_iald hx hb hK hP 0 e3 rfl (by omega) (by omega) d_Ru_contains_16 ?_
    have b_3 := hhw wh
    refine ln_gt (tgt := 24) hx hb d_Ru_contains_17 (by decide) (by omega) (by omega) (fun c_4 => ?_) (fun c_4 => ?_)
    · skip
      refine lv_iconst (v := nI 0) hx hb d_Ru_contains_24 (by decide) ?_
      exact gc_zret hx hb hr hlk hP hS d_Ru_contains_25 rfl (by first | exact ⟨rfl, Or.inl ⟨(by first | assumption | omega), rfl, rfl⟩⟩ | exact ⟨rfl, Or.inr ⟨(by first | assumption | omega), rfl, rfl⟩⟩)
    · skip
      refine lv_iconst (v := nI 1) hx hb d_Ru_contains_20 (by decide) ?_
      refine lv_goto (tgt := 25) hx hb d_Ru_contains_21 (by decide) ?_
      exact gc_zret hx hb hr hlk hP hS d_Ru_contains_25 rfl (by first | exact ⟨rfl, Or.inl ⟨(by first | assumption | omega), rfl, rfl⟩⟩ | exact ⟨rfl, Or.inr ⟨(by first | assumption | omega), rfl, rfl⟩⟩)
set_option maxHeartbeats 4000000 in
set_option maxRecDepth 100000 in
theorem c_Ru_matches {x u v : Nat} {lw hw : Nat → Nat} {ac dr po : Nat} {d0 pr s0 t0 : Nat} (e1 : M x = some (.inr (5, [.int (nI ac), .int (nI dr), .int (nI po), .ref u, .ref v]))) (e2 : M u = some (.inl (ca 0, 3, .inl (iN lw)))) (e3 : M v = some (.inl (ca 0, 3, .inl (iN hw)))) (hlw : ∀ q, lw q ≤ 255) (hhw : ∀ q, hw q ≤ 255) (hac : ac < 3) (hdr : dr < 3) (hpo : po < 4) (hd0 : d0 < 65536) (hpr : pr < 65536) (hs0 : s0 < 65536) (ht0 : t0 < 65536) : gC l D ca A G y_Ru_matches (.code y_Ru_matches b_Ru_matches 5 (some .boolean)) ({ frames := 1, cells := 0, slots := 0, locals := 22 }) N M [.ref x, .int (nI d0), .int (nI pr), .int (nI s0), .int (nI t0)] gm_i (fun (r : Int32) (N1 : Nat) (M1 : gm_M) => N = N1 ∧ (((mat dr po lw hw d0 pr s0 t0) ∧ M = M1 ∧ nI 1 = r) ∨ ((¬ mat dr po lw hw d0 pr s0 t0) ∧ M = M1 ∧ nI 0 = r))) := by
  refine gm_body (by decide) (Nat.le_of_ble_eq_true rfl) (fun p e s m below meth c ls hx hb hr hts hown hlk hml hnm hP hK hN hX hS hl => ?_)
  have htl : ∀ w ∈ LW, w.before _ s = true := fun w h => hts w (List.mem_cons_of_mem _ h)
  have hown : s.vm.findClass "PacketGate$Rule" = some m.cls := hown
  have hl : lv_has ls 5 [(0, .ref x), (1, .int (nI d0)), (2, .int (nI pr)), (3, .int (nI s0)), (4, .int (nI t0))] := hl
  refine lv_aload_n hx hb d_Ru_matches_0 rfl (lv_at hl 0 rfl) ?_
  refine gm_get (C := R_Ru) (T := F_Ru) (n := 5) hx hb htl i_Ru hown hK hP e1 rfl 1 (by decide) (htl _ k_68) (fun _ h => h) rfl d_Ru_matches_1 ?_
  refine lv_iconst (v := nI 2) hx hb d_Ru_matches_4 (by decide) ?_
  refine ln_eq (tgt := 16) hx hb d_Ru_matches_5 (by decide) (by omega) (by omega) (fun c_1 => ?_) (fun c_1 => ?_)
  · skip
    refine lv_aload_n hx hb d_Ru_matches_16 rfl (lv_at hl 0 rfl) ?_
    refine gm_get (C := R_Ru) (T := F_Ru) (n := 5) hx hb htl i_Ru hown hK hP e1 rfl 2 (by decide) (htl _ k_70) (fun _ h => h) rfl d_Ru_matches_17 ?_
    refine lv_iconst (v := nI 3) hx hb d_Ru_matches_20 (by decide) ?_
    refine ln_eq (tgt := 32) hx hb d_Ru_matches_21 (by decide) (by omega) (by omega) (fun c_2 => ?_) (fun c_2 => ?_)
    · skip
      refine lv_aload_n hx hb d_Ru_matches_32 rfl (lv_at hl 0 rfl) ?_
      refine lv_iconst (v := nI 0) hx hb d_Ru_matches_33 (by decide) ?_
      refine lv_iload_n hx hb d_Ru_matches_34 rfl (lv_at hl 3 rfl) ?_
      refine gc_SN (n := 1) [.int (nI s0)] [.int (nI 0), .ref x] hx hb hml hown hts hK hN hX hP hS (c_Pg_addressOf s0 (by omega)) hX.1.2.1 k_562 k_1 k_563 (by decide +kernel) ⟨by decide, by decide⟩ rfl hl.1 rfl (Nat.le_of_ble_eq_true rfl) d_Ru_matches_35 ⟨by decide, by decide⟩ (fun r N1 M_3 H locs hw hP hS => ?_)
      obtain ⟨rfl, hw⟩ := hw
      obtain ⟨rfl, rfl⟩ := hw
      refine W.eq (g2 := F0 m 38 ls [.int (nI (s0 / 256)), .int (nI 0), .ref x]) rfl ?_
      refine gc_V (q := (R_Ru, F_Ru, 5)) (n := 2) [.int (nI 0), .int (nI (s0 / 256))] [] hx hb hml hown hts hK hN hX hP hS (c_Ru_contains e1 e2 e3 hlw hhw (by omega) (by omega)) rfl e1 k_617 k_619 ks_Ru_contains k_5 k_620 (by decide +kernel) ⟨by decide, by decide⟩ rfl hl.1 rfl (Nat.le_of_ble_eq_true rfl) d_Ru_matches_38 ⟨by decide, by decide⟩ (fun r N1 M_4 H locs hw hP hS => ?_)
      obtain ⟨rfl, hw⟩ := hw
      rcases hw with ⟨c_5, rfl, rfl⟩ | ⟨c_6, rfl, rfl⟩
      · skip
        refine W.eq (g2 := F0 m 41 ls [.int (nI 1)]) rfl ?_
        refine lv_if_eq (tgt := 74) hx hb d_Ru_matches_41 (by decide) (fun q => absurd q (by decide)) (fun _ => ?_)
        refine lv_aload_n hx hb d_Ru_matches_44 rfl (lv_at hl 0 rfl) ?_
        refine lv_iconst (v := nI 1) hx hb d_Ru_matches_45 (by decide) ?_
        refine lv_iload hx hb d_Ru_matches_46 (lv_at hl 4 rfl) ?_
        refine gc_SN (n := 1) [.int (nI t0)] [.int (nI 1), .ref x] hx hb hml hown hts hK hN hX hP hS (c_Pg_addressOf t0 (by omega)) hX.1.2.1 k_562 k_1 k_563 (by decide +kernel) ⟨by decide, by decide⟩ rfl hl.1 rfl (Nat.le_of_ble_eq_true rfl) d_Ru_matches_48 ⟨by decide, by decide⟩ (fun r N1 M_7 H locs hw hP hS => ?_)
        obtain ⟨rfl, hw⟩ := hw
        obtain ⟨rfl, rfl⟩ := hw
        refine W.eq (g2 := F0 m 51 ls [.int (nI (t0 / 256)), .int (nI 1), .ref x]) rfl ?_
        refine gc_V (q := (R_Ru, F_Ru, 5)) (n := 2) [.int (nI 1), .int (nI (t0 / 256))] [] hx hb hml hown hts hK hN hX hP hS (c_Ru_contains e1 e2 e3 hlw hhw (by omega) (by omega)) rfl e1 k_617 k_619 ks_Ru_contains k_5 k_620 (by decide +kernel) ⟨by decide, by decide⟩ rfl hl.1 rfl (Nat.le_of_ble_eq_true rfl) d_Ru_matches_51 ⟨by decide, by decide⟩ (fun r N1 M_8 H locs hw hP hS => ?_)
        obtain ⟨rfl, hw⟩ := hw
        rcases hw with ⟨c_9, rfl, rfl⟩ | ⟨c_10, rfl, rfl⟩
        · skip
          refine W.eq (g2 := F0 m 54 ls [.int (nI 1)]) rfl ?_
          refine lv_if_eq (tgt := 74) hx hb d_Ru_matches_54 (by decide) (fun q => absurd q (by decide)) (fun _ => ?_)
          refine lv_aload_n hx hb d_Ru_matches_57 rfl (lv_at hl 0 rfl) ?_
          refine lv_iconst (v := nI 2) hx hb d_Ru_matches_58 (by decide) ?_
          refine lv_iload hx hb d_Ru_matches_59 (lv_at hl 4 rfl) ?_
          refine gc_SN (n := 1) [.int (nI t0)] [.int (nI 2), .ref x] hx hb hml hown hts hK hN hX hP hS (c_Pg_portOf t0 (by omega)) hX.1.2.2.1 k_602 k_1 k_603 (by decide +kernel) ⟨by decide, by decide⟩ rfl hl.1 rfl (Nat.le_of_ble_eq_true rfl) d_Ru_matches_61 ⟨by decide, by decide⟩ (fun r N1 M_11 H locs hw hP hS => ?_)
          obtain ⟨rfl, hw⟩ := hw
          obtain ⟨rfl, rfl⟩ := hw
          refine W.eq (g2 := F0 m 64 ls [.int (nI (t0 % 256)), .int (nI 2), .ref x]) rfl ?_
          refine gc_V (q := (R_Ru, F_Ru, 5)) (n := 2) [.int (nI 2), .int (nI (t0 % 256))] [] hx hb hml hown hts hK hN hX hP hS (c_Ru_contains e1 e2 e3 hlw hhw (by omega) (by omega)) rfl e1 k_617 k_619 ks_Ru_contains k_5 k_620 (by decide +kernel) ⟨by decide, by decide⟩ rfl hl.1 rfl (Nat.le_of_ble_eq_true rfl) d_Ru_matches_64 ⟨by decide, by decide⟩ (fun r N1 M_12 H locs hw hP hS => ?_)
          obtain ⟨rfl, hw⟩ := hw
          rcases hw with ⟨c_13, rfl, rfl⟩ | ⟨c_14, rfl, rfl⟩
          · skip
            refine W.eq (g2 := F0 m 67 ls [.int (nI 1)]) rfl ?_
            refine lv_if_eq (tgt := 74) hx hb d_Ru_matches_67 (by decide) (fun q => absurd q (by decide)) (fun _ => ?_)
            refine lv_iconst (v := nI 1) hx hb d_Ru_matches_70 (by decide) ?_
            refine lv_goto (tgt := 75) hx hb d_Ru_matches_71 (by decide) ?_
            exact gc_zret hx hb hr hlk hP hS d_Ru_matches_75 rfl (by first | exact ⟨rfl, Or.inl ⟨(by (unfold mat; omega)), rfl, rfl⟩⟩ | exact ⟨rfl, Or.inr ⟨(by (unfold mat; omega)), rfl, rfl⟩⟩)
          · skip
            refine W.eq (g2 := F0 m 67 ls [.int (nI 0)]) rfl ?_
            refine lv_if_eq (tgt := 74) hx hb d_Ru_matches_67 (by decide) (fun _ => ?_) (fun q => absurd q (by decide))
            refine lv_iconst (v := nI 0) hx hb d_Ru_matches_74 (by decide) ?_
            exact gc_zret hx hb hr hlk hP hS d_Ru_matches_75 rfl (by first | exact ⟨rfl, Or.inl ⟨(by (unfold mat; omega)), rfl, rfl⟩⟩ | exact ⟨rfl, Or.inr ⟨(by (unfold mat; omega)), rfl, rfl⟩⟩)
        · skip
          refine W.eq (g2 := F0 m 54 ls [.int (nI 0)]) rfl ?_
          refine lv_if_eq (tgt := 74) hx hb d_Ru_matches_54 (by decide) (fun _ => ?_) (fun q => absurd q (by decide))
          refine lv_iconst (v := nI 0) hx hb d_Ru_matches_74 (by decide) ?_
          exact gc_zret hx hb hr hlk hP hS d_Ru_matches_75 rfl (by first | exact ⟨rfl, Or.inl ⟨(by (unfold mat; omega)), rfl, rfl⟩⟩ | exact ⟨rfl, Or.inr ⟨(by (unfold mat; omega)), rfl, rfl⟩⟩)
      · skip
        refine W.eq (g2 := F0 m 41 ls [.int (nI 0)]) rfl ?_
        refine lv_if_eq (tgt := 74) hx hb d_Ru_matches_41 (by decide) (fun _ => ?_) (fun q => absurd q (by decide))
        refine lv_iconst (v := nI 0) hx hb d_Ru_matches_74 (by decide) ?_
        exact gc_zret hx hb hr hlk hP hS d_Ru_matches_75 rfl (by first | exact ⟨rfl, Or.inl ⟨(by (unfold mat; omega)), rfl, rfl⟩⟩ | exact ⟨rfl, Or.inr ⟨(by (unfold mat; omega)), rfl, rfl⟩⟩)
    · skip
      refine lv_aload_n hx hb d_Ru_matches_24 rfl (lv_at hl 0 rfl) ?_
      refine gm_get (C := R_Ru) (T := F_Ru) (n := 5) hx hb htl i_Ru hown hK hP e1 rfl 2 (by decide) (htl _ k_70) (fun _ h => h) rfl d_Ru_matches_25 ?_
      refine lv_iload_n hx hb d_Ru_matches_28 rfl (lv_at hl 2 rfl) ?_
      refine ln_ne (tgt := 74) hx hb d_Ru_matches_29 (by decide) (by omega) (by omega) (fun c_15 => ?_) (fun c_15 => ?_)
      · skip
        refine lv_iconst (v := nI 0) hx hb d_Ru_matches_74 (by decide) ?_
        exact gc_zret hx hb hr hlk hP hS d_Ru_matches_75 rfl (by first | exact ⟨rfl, Or.inl ⟨(by (unfold mat; omega)), rfl, rfl⟩⟩ | exact ⟨rfl, Or.inr ⟨(by (unfold mat; omega)), rfl, rfl⟩⟩)
      · skip
        refine lv_aload_n hx hb d_Ru_matches_32 rfl (lv_at hl 0 rfl) ?_
        refine lv_iconst (v := nI 0) hx hb d_Ru_matches_33 (by decide) ?_
        refine lv_iload_n hx hb d_Ru_matches_34 rfl (lv_at hl 3 rfl) ?_
        refine gc_SN (n := 1) [.int (nI s0)] [.int (nI 0), .ref x] hx hb hml hown hts hK hN hX hP hS (c_Pg_addressOf s0 (by omega)) hX.1.2.1 k_562 k_1 k_563 (by decide +kernel) ⟨by decide, by decide⟩ rfl hl.1 rfl (Nat.le_of_ble_eq_true rfl) d_Ru_matches_35 ⟨by decide, by decide⟩ (fun r N1 M_16 H locs hw hP hS => ?_)
        obtain ⟨rfl, hw⟩ := hw
        obtain ⟨rfl, rfl⟩ := hw
        refine W.eq (g2 := F0 m 38 ls [.int (nI (s0 / 256)), .int (nI 0), .ref x]) rfl ?_
        refine gc_V (q := (R_Ru, F_Ru, 5)) (n := 2) [.int (nI 0), .int (nI (s0 / 256))] [] hx hb hml hown hts hK hN hX hP hS (c_Ru_contains e1 e2 e3 hlw hhw (by omega) (by omega)) rfl e1 k_617 k_619 ks_Ru_contains k_5 k_620 (by decide +kernel) ⟨by decide, by decide⟩ rfl hl.1 rfl (Nat.le_of_ble_eq_true rfl) d_Ru_matches_38 ⟨by decide, by decide⟩ (fun r N1 M_17 H locs hw hP hS => ?_)
        obtain ⟨rfl, hw⟩ := hw
        rcases hw with ⟨c_18, rfl, rfl⟩ | ⟨c_19, rfl, rfl⟩
        · skip
          refine W.eq (g2 := F0 m 41 ls [.int (nI 1)]) rfl ?_
          refine lv_if_eq (tgt := 74) hx hb d_Ru_matches_41 (by decide) (fun q => absurd q (by decide)) (fun _ => ?_)
          refine lv_aload_n hx hb d_Ru_matches_44 rfl (lv_at hl 0 rfl) ?_
          refine lv_iconst (v := nI 1) hx hb d_Ru_matches_45 (by decide) ?_
          refine lv_iload hx hb d_Ru_matches_46 (lv_at hl 4 rfl) ?_
          refine gc_SN (n := 1) [.int (nI t0)] [.int (nI 1), .ref x] hx hb hml hown hts hK hN hX hP hS (c_Pg_addressOf t0 (by omega)) hX.1.2.1 k_562 k_1 k_563 (by decide +kernel) ⟨by decide, by decide⟩ rfl hl.1 rfl (Nat.le_of_ble_eq_true rfl) d_Ru_matches_48 ⟨by decide, by decide⟩ (fun r N1 M_20 H locs hw hP hS => ?_)
          obtain ⟨rfl, hw⟩ := hw
          obtain ⟨rfl, rfl⟩ := hw
          refine W.eq (g2 := F0 m 51 ls [.int (nI (t0 / 256)), .int (nI 1), .ref x]) rfl ?_
          refine gc_V (q := (R_Ru, F_Ru, 5)) (n := 2) [.int (nI 1), .int (nI (t0 / 256))] [] hx hb hml hown hts hK hN hX hP hS (c_Ru_contains e1 e2 e3 hlw hhw (by omega) (by omega)) rfl e1 k_617 k_619 ks_Ru_contains k_5 k_620 (by decide +kernel) ⟨by decide, by decide⟩ rfl hl.1 rfl (Nat.le_of_ble_eq_true rfl) d_Ru_matches_51 ⟨by decide, by decide⟩ (fun r N1 M_21 H locs hw hP hS => ?_)
          obtain ⟨rfl, hw⟩ := hw
          rcases hw with ⟨c_22, rfl, rfl⟩ | ⟨c_23, rfl, rfl⟩
          · skip
            refine W.eq (g2 := F0 m 54 ls [.int (nI 1)]) rfl ?_
            refine lv_if_eq (tgt := 74) hx hb d_Ru_matches_54 (by decide) (fun q => absurd q (by decide)) (fun _ => ?_)
            refine lv_aload_n hx hb d_Ru_matches_57 rfl (lv_at hl 0 rfl) ?_
            refine lv_iconst (v := nI 2) hx hb d_Ru_matches_58 (by decide) ?_
            refine lv_iload hx hb d_Ru_matches_59 (lv_at hl 4 rfl) ?_
            refine gc_SN (n := 1) [.int (nI t0)] [.int (nI 2), .ref x] hx hb hml hown hts hK hN hX hP hS (c_Pg_portOf t0 (by omega)) hX.1.2.2.1 k_602 k_1 k_603 (by decide +kernel) ⟨by decide, by decide⟩ rfl hl.1 rfl (Nat.le_of_ble_eq_true rfl) d_Ru_matches_61 ⟨by decide, by decide⟩ (fun r N1 M_24 H locs hw hP hS => ?_)
            obtain ⟨rfl, hw⟩ := hw
            obtain ⟨rfl, rfl⟩ := hw
            refine W.eq (g2 := F0 m 64 ls [.int (nI (t0 % 256)), .int (nI 2), .ref x]) rfl ?_
            refine gc_V (q := (R_Ru, F_Ru, 5)) (n := 2) [.int (nI 2), .int (nI (t0 % 256))] [] hx hb hml hown hts hK hN hX hP hS (c_Ru_contains e1 e2 e3 hlw hhw (by omega) (by omega)) rfl e1 k_617 k_619 ks_Ru_contains k_5 k_620 (by decide +kernel) ⟨by decide, by decide⟩ rfl hl.1 rfl (Nat.le_of_ble_eq_true rfl) d_Ru_matches_64 ⟨by decide, by decide⟩ (fun r N1 M_25 H locs hw hP hS => ?_)
            obtain ⟨rfl, hw⟩ := hw
            rcases hw with ⟨c_26, rfl, rfl⟩ | ⟨c_27, rfl, rfl⟩
            · skip
              refine W.eq (g2 := F0 m 67 ls [.int (nI 1)]) rfl ?_
              refine lv_if_eq (tgt := 74) hx hb d_Ru_matches_67 (by decide) (fun q => absurd q (by decide)) (fun _ => ?_)
              refine lv_iconst (v := nI 1) hx hb d_Ru_matches_70 (by decide) ?_
              refine lv_goto (tgt := 75) hx hb d_Ru_matches_71 (by decide) ?_
              exact gc_zret hx hb hr hlk hP hS d_Ru_matches_75 rfl (by first | exact ⟨rfl, Or.inl ⟨(by (unfold mat; omega)), rfl, rfl⟩⟩ | exact ⟨rfl, Or.inr ⟨(by (unfold mat; omega)), rfl, rfl⟩⟩)
            · skip
              refine W.eq (g2 := F0 m 67 ls [.int (nI 0)]) rfl ?_
              refine lv_if_eq (tgt := 74) hx hb d_Ru_matches_67 (by decide) (fun _ => ?_) (fun q => absurd q (by decide))
              refine lv_iconst (v := nI 0) hx hb d_Ru_matches_74 (by decide) ?_
              exact gc_zret hx hb hr hlk hP hS d_Ru_matches_75 rfl (by first | exact ⟨rfl, Or.inl ⟨(by (unfold mat; omega)), rfl, rfl⟩⟩ | exact ⟨rfl, Or.inr ⟨(by (unfold mat; omega)), rfl, rfl⟩⟩)
          · skip
            refine W.eq (g2 := F0 m 54 ls [.int (nI 0)]) rfl ?_
            refine lv_if_eq (tgt := 74) hx hb d_Ru_matches_54 (by decide) (fun _ => ?_) (fun q => absurd q (by decide))
            refine lv_iconst (v := nI 0) hx hb d_Ru_matches_74 (by decide) ?_
            exact gc_zret hx hb hr hlk hP hS d_Ru_matches_75 rfl (by first | exact ⟨rfl, Or.inl ⟨(by (unfold mat; omega)), rfl, rfl⟩⟩ | exact ⟨rfl, Or.inr ⟨(by (unfold mat; omega)), rfl, rfl⟩⟩)
        · skip
          refine W.eq (g2 := F0 m 41 ls [.int (nI 0)]) rfl ?_
          refine lv_if_eq (tgt := 74) hx hb d_Ru_matches_41 (by decide) (fun _ => ?_) (fun q => absurd q (by decide))
          refine lv_iconst (v := nI 0) hx hb d_Ru_matches_74 (by decide) ?_
          exact gc_zret hx hb hr hlk hP hS d_Ru_matches_75 rfl (by first | exact ⟨rfl, Or.inl ⟨(by (unfold mat; omega)), rfl, rfl⟩⟩ | exact ⟨rfl, Or.inr ⟨(by (unfold mat; omega)), rfl, rfl⟩⟩)
  · skip
    refine lv_aload_n hx hb d_Ru_matches_8 rfl (lv_at hl 0 rfl) ?_
    refine gm_get (C := R_Ru) (T := F_Ru) (n := 5) hx hb htl i_Ru hown hK hP e1 rfl 1 (by decide) (htl _ k_68) (fun _ h => h) rfl d_Ru_matches_9 ?_
    refine lv_iload_n hx hb d_Ru_matches_12 rfl (lv_at hl 1 rfl) ?_
    refine ln_ne (tgt := 74) hx hb d_Ru_matches_13 (by decide) (by omega) (by omega) (fun c_28 => ?_) (fun c_28 => ?_)
    · skip
      refine lv_iconst (v := nI 0) hx hb d_Ru_matches_74 (by decide) ?_
      exact gc_zret hx hb hr hlk hP hS d_Ru_matches_75 rfl (by first | exact ⟨rfl, Or.inl ⟨(by (unfold mat; omega)), rfl, rfl⟩⟩ | exact ⟨rfl, Or.inr ⟨(by (unfold mat; omega)), rfl, rfl⟩⟩)
    · skip
      refine lv_aload_n hx hb d_Ru_matches_16 rfl (lv_at hl 0 rfl) ?_
      refine gm_get (C := R_Ru) (T := F_Ru) (n := 5) hx hb htl i_Ru hown hK hP e1 rfl 2 (by decide) (htl _ k_70) (fun _ h => h) rfl d_Ru_matches_17 ?_
      refine lv_iconst (v := nI 3) hx hb d_Ru_matches_20 (by decide) ?_
      refine ln_eq (tgt := 32) hx hb d_Ru_matches_21 (by decide) (by omega) (by omega) (fun c_29 => ?_) (fun c_29 => ?_)
      · skip
        refine lv_aload_n hx hb d_Ru_matches_32 rfl (lv_at hl 0 rfl) ?_
        refine lv_iconst (v := nI 0) hx hb d_Ru_matches_33 (by decide) ?_
        refine lv_iload_n hx hb d_Ru_matches_34 rfl (lv_at hl 3 rfl) ?_
        refine gc_SN (n := 1) [.int (nI s0)] [.int (nI 0), .ref x] hx hb hml hown hts hK hN hX hP hS (c_Pg_addressOf s0 (by omega)) hX.1.2.1 k_562 k_1 k_563 (by decide +kernel) ⟨by decide, by decide⟩ rfl hl.1 rfl (Nat.le_of_ble_eq_true rfl) d_Ru_matches_35 ⟨by decide, by decide⟩ (fun r N1 M_30 H locs hw hP hS => ?_)
        obtain ⟨rfl, hw⟩ := hw
        obtain ⟨rfl, rfl⟩ := hw
        refine W.eq (g2 := F0 m 38 ls [.int (nI (s0 / 256)), .int (nI 0), .ref x]) rfl ?_
        refine gc_V (q := (R_Ru, F_Ru, 5)) (n := 2) [.int (nI 0), .int (nI (s0 / 256))] [] hx hb hml hown hts hK hN hX hP hS (c_Ru_contains e1 e2 e3 hlw hhw (by omega) (by omega)) rfl e1 k_617 k_619 ks_Ru_contains k_5 k_620 (by decide +kernel) ⟨by decide, by decide⟩ rfl hl.1 rfl (Nat.le_of_ble_eq_true rfl) d_Ru_matches_38 ⟨by decide, by decide⟩ (fun r N1 M_31 H locs hw hP hS => ?_)
        obtain ⟨rfl, hw⟩ := hw
        rcases hw with ⟨c_32, rfl, rfl⟩ | ⟨c_33, rfl, rfl⟩
        · skip
          refine W.eq (g2 := F0 m 41 ls [.int (nI 1)]) rfl ?_
          refine lv_if_eq (tgt := 74) hx hb d_Ru_matches_41 (by decide) (fun q => absurd q (by decide)) (fun _ => ?_)
          refine lv_aload_n hx hb d_Ru_matches_44 rfl (lv_at hl 0 rfl) ?_
          refine lv_iconst (v := nI 1) hx hb d_Ru_matches_45 (by decide) ?_
          refine lv_iload hx hb d_Ru_matches_46 (lv_at hl 4 rfl) ?_
          refine gc_SN (n := 1) [.int (nI t0)] [.int (nI 1), .ref x] hx hb hml hown hts hK hN hX hP hS (c_Pg_addressOf t0 (by omega)) hX.1.2.1 k_562 k_1 k_563 (by decide +kernel) ⟨by decide, by decide⟩ rfl hl.1 rfl (Nat.le_of_ble_eq_true rfl) d_Ru_matches_48 ⟨by decide, by decide⟩ (fun r N1 M_34 H locs hw hP hS => ?_)
          obtain ⟨rfl, hw⟩ := hw
          obtain ⟨rfl, rfl⟩ := hw
          refine W.eq (g2 := F0 m 51 ls [.int (nI (t0 / 256)), .int (nI 1), .ref x]) rfl ?_
          refine gc_V (q := (R_Ru, F_Ru, 5)) (n := 2) [.int (nI 1), .int (nI (t0 / 256))] [] hx hb hml hown hts hK hN hX hP hS (c_Ru_contains e1 e2 e3 hlw hhw (by omega) (by omega)) rfl e1 k_617 k_619 ks_Ru_contains k_5 k_620 (by decide +kernel) ⟨by decide, by decide⟩ rfl hl.1 rfl (Nat.le_of_ble_eq_true rfl) d_Ru_matches_51 ⟨by decide, by decide⟩ (fun r N1 M_35 H locs hw hP hS => ?_)
          obtain ⟨rfl, hw⟩ := hw
          rcases hw with ⟨c_36, rfl, rfl⟩ | ⟨c_37, rfl, rfl⟩
          · skip
            refine W.eq (g2 := F0 m 54 ls [.int (nI 1)]) rfl ?_
            refine lv_if_eq (tgt := 74) hx hb d_Ru_matches_54 (by decide) (fun q => absurd q (by decide)) (fun _ => ?_)
            refine lv_aload_n hx hb d_Ru_matches_57 rfl (lv_at hl 0 rfl) ?_
            refine lv_iconst (v := nI 2) hx hb d_Ru_matches_58 (by decide) ?_
            refine lv_iload hx hb d_Ru_matches_59 (lv_at hl 4 rfl) ?_
            refine gc_SN (n := 1) [.int (nI t0)] [.int (nI 2), .ref x] hx hb hml hown hts hK hN hX hP hS (c_Pg_portOf t0 (by omega)) hX.1.2.2.1 k_602 k_1 k_603 (by decide +kernel) ⟨by decide, by decide⟩ rfl hl.1 rfl (Nat.le_of_ble_eq_true rfl) d_Ru_matches_61 ⟨by decide, by decide⟩ (fun r N1 M_38 H locs hw hP hS => ?_)
            obtain ⟨rfl, hw⟩ := hw
            obtain ⟨rfl, rfl⟩ := hw
            refine W.eq (g2 := F0 m 64 ls [.int (nI (t0 % 256)), .int (nI 2), .ref x]) rfl ?_
            refine gc_V (q := (R_Ru, F_Ru, 5)) (n := 2) [.int (nI 2), .int (nI (t0 % 256))] [] hx hb hml hown hts hK hN hX hP hS (c_Ru_contains e1 e2 e3 hlw hhw (by omega) (by omega)) rfl e1 k_617 k_619 ks_Ru_contains k_5 k_620 (by decide +kernel) ⟨by decide, by decide⟩ rfl hl.1 rfl (Nat.le_of_ble_eq_true rfl) d_Ru_matches_64 ⟨by decide, by decide⟩ (fun r N1 M_39 H locs hw hP hS => ?_)
            obtain ⟨rfl, hw⟩ := hw
            rcases hw with ⟨c_40, rfl, rfl⟩ | ⟨c_41, rfl, rfl⟩
            · skip
              refine W.eq (g2 := F0 m 67 ls [.int (nI 1)]) rfl ?_
              refine lv_if_eq (tgt := 74) hx hb d_Ru_matches_67 (by decide) (fun q => absurd q (by decide)) (fun _ => ?_)
              refine lv_iconst (v := nI 1) hx hb d_Ru_matches_70 (by decide) ?_
              refine lv_goto (tgt := 75) hx hb d_Ru_matches_71 (by decide) ?_
              exact gc_zret hx hb hr hlk hP hS d_Ru_matches_75 rfl (by first | exact ⟨rfl, Or.inl ⟨(by (unfold mat; omega)), rfl, rfl⟩⟩ | exact ⟨rfl, Or.inr ⟨(by (unfold mat; omega)), rfl, rfl⟩⟩)
            · skip
              refine W.eq (g2 := F0 m 67 ls [.int (nI 0)]) rfl ?_
              refine lv_if_eq (tgt := 74) hx hb d_Ru_matches_67 (by decide) (fun _ => ?_) (fun q => absurd q (by decide))
              refine lv_iconst (v := nI 0) hx hb d_Ru_matches_74 (by decide) ?_
              exact gc_zret hx hb hr hlk hP hS d_Ru_matches_75 rfl (by first | exact ⟨rfl, Or.inl ⟨(by (unfold mat; omega)), rfl, rfl⟩⟩ | exact ⟨rfl, Or.inr ⟨(by (unfold mat; omega)), rfl, rfl⟩⟩)
          · skip
            refine W.eq (g2 := F0 m 54 ls [.int (nI 0)]) rfl ?_
            refine lv_if_eq (tgt := 74) hx hb d_Ru_matches_54 (by decide) (fun _ => ?_) (fun q => absurd q (by decide))
            refine lv_iconst (v := nI 0) hx hb d_Ru_matches_74 (by decide) ?_
            exact gc_zret hx hb hr hlk hP hS d_Ru_matches_75 rfl (by first | exact ⟨rfl, Or.inl ⟨(by (unfold mat; omega)), rfl, rfl⟩⟩ | exact ⟨rfl, Or.inr ⟨(by (unfold mat; omega)), rfl, rfl⟩⟩)
        · skip
          refine W.eq (g2 := F0 m 41 ls [.int (nI 0)]) rfl ?_
          refine lv_if_eq (tgt := 74) hx hb d_Ru_matches_41 (by decide) (fun _ => ?_) (fun q => absurd q (by decide))
          refine lv_iconst (v := nI 0) hx hb d_Ru_matches_74 (by decide) ?_
          exact gc_zret hx hb hr hlk hP hS d_Ru_matches_75 rfl (by first | exact ⟨rfl, Or.inl ⟨(by (unfold mat; omega)), rfl, rfl⟩⟩ | exact ⟨rfl, Or.inr ⟨(by (unfold mat; omega)), rfl, rfl⟩⟩)
      · skip
        refine lv_aload_n hx hb d_Ru_matches_24 rfl (lv_at hl 0 rfl) ?_
        refine gm_get (C := R_Ru) (T := F_Ru) (n := 5) hx hb htl i_Ru hown hK hP e1 rfl 2 (by decide) (htl _ k_70) (fun _ h => h) rfl d_Ru_matches_25 ?_
        refine lv_iload_n hx hb d_Ru_matches_28 rfl (lv_at hl 2 rfl) ?_
        refine ln_ne (tgt := 74) hx hb d_Ru_matches_29 (by decide) (by omega) (by omega) (fun c_42 => ?_) (fun c_42 => ?_)
        · skip
          refine lv_iconst (v := nI 0) hx hb d_Ru_matches_74 (by decide) ?_
          exact gc_zret hx hb hr hlk hP hS d_Ru_matches_75 rfl (by first | exact ⟨rfl, Or.inl ⟨(by (unfold mat; omega)), rfl, rfl⟩⟩ | exact ⟨rfl, Or.inr ⟨(by (unfold mat; omega)), rfl, rfl⟩⟩)
        · skip
          refine lv_aload_n hx hb d_Ru_matches_32 rfl (lv_at hl 0 rfl) ?_
          refine lv_iconst (v := nI 0) hx hb d_Ru_matches_33 (by decide) ?_
          refine lv_iload_n hx hb d_Ru_matches_34 rfl (lv_at hl 3 rfl) ?_
          refine gc_SN (n := 1) [.int (nI s0)] [.int (nI 0), .ref x] hx hb hml hown hts hK hN hX hP hS (c_Pg_addressOf s0 (by omega)) hX.1.2.1 k_562 k_1 k_563 (by decide +kernel) ⟨by decide, by decide⟩ rfl hl.1 rfl (Nat.le_of_ble_eq_true rfl) d_Ru_matches_35 ⟨by decide, by decide⟩ (fun r N1 M_43 H locs hw hP hS => ?_)
          obtain ⟨rfl, hw⟩ := hw
          obtain ⟨rfl, rfl⟩ := hw
          refine W.eq (g2 := F0 m 38 ls [.int (nI (s0 / 256)), .int (nI 0), .ref x]) rfl ?_
          refine gc_V (q := (R_Ru, F_Ru, 5)) (n := 2) [.int (nI 0), .int (nI (s0 / 256))] [] hx hb hml hown hts hK hN hX hP hS (c_Ru_contains e1 e2 e3 hlw hhw (by omega) (by omega)) rfl e1 k_617 k_619 ks_Ru_contains k_5 k_620 (by decide +kernel) ⟨by decide, by decide⟩ rfl hl.1 rfl (Nat.le_of_ble_eq_true rfl) d_Ru_matches_38 ⟨by decide, by decide⟩ (fun r N1 M_44 H locs hw hP hS => ?_)
          obtain ⟨rfl, hw⟩ := hw
          rcases hw with ⟨c_45, rfl, rfl⟩ | ⟨c_46, rfl, rfl⟩
          · skip
            refine W.eq (g2 := F0 m 41 ls [.int (nI 1)]) rfl ?_
            refine lv_if_eq (tgt := 74) hx hb d_Ru_matches_41 (by decide) (fun q => absurd q (by decide)) (fun _ => ?_)
            refine lv_aload_n hx hb d_Ru_matches_44 rfl (lv_at hl 0 rfl) ?_
            refine lv_iconst (v := nI 1) hx hb d_Ru_matches_45 (by decide) ?_
            refine lv_iload hx hb d_Ru_matches_46 (lv_at hl 4 rfl) ?_
            refine gc_SN (n := 1) [.int (nI t0)] [.int (nI 1), .ref x] hx hb hml hown hts hK hN hX hP hS (c_Pg_addressOf t0 (by omega)) hX.1.2.1 k_562 k_1 k_563 (by decide +kernel) ⟨by decide, by decide⟩ rfl hl.1 rfl (Nat.le_of_ble_eq_true rfl) d_Ru_matches_48 ⟨by decide, by decide⟩ (fun r N1 M_47 H locs hw hP hS => ?_)
            obtain ⟨rfl, hw⟩ := hw
            obtain ⟨rfl, rfl⟩ := hw
            refine W.eq (g2 := F0 m 51 ls [.int (nI (t0 / 256)), .int (nI 1), .ref x]) rfl ?_
            refine gc_V (q := (R_Ru, F_Ru, 5)) (n := 2) [.int (nI 1), .int (nI (t0 / 256))] [] hx hb hml hown hts hK hN hX hP hS (c_Ru_contains e1 e2 e3 hlw hhw (by omega) (by omega)) rfl e1 k_617 k_619 ks_Ru_contains k_5 k_620 (by decide +kernel) ⟨by decide, by decide⟩ rfl hl.1 rfl (Nat.le_of_ble_eq_true rfl) d_Ru_matches_51 ⟨by decide, by decide⟩ (fun r N1 M_48 H locs hw hP hS => ?_)
            obtain ⟨rfl, hw⟩ := hw
            rcases hw with ⟨c_49, rfl, rfl⟩ | ⟨c_50, rfl, rfl⟩
            · skip
              refine W.eq (g2 := F0 m 54 ls [.int (nI 1)]) rfl ?_
              refine lv_if_eq (tgt := 74) hx hb d_Ru_matches_54 (by decide) (fun q => absurd q (by decide)) (fun _ => ?_)
              refine lv_aload_n hx hb d_Ru_matches_57 rfl (lv_at hl 0 rfl) ?_
              refine lv_iconst (v := nI 2) hx hb d_Ru_matches_58 (by decide) ?_
              refine lv_iload hx hb d_Ru_matches_59 (lv_at hl 4 rfl) ?_
              refine gc_SN (n := 1) [.int (nI t0)] [.int (nI 2), .ref x] hx hb hml hown hts hK hN hX hP hS (c_Pg_portOf t0 (by omega)) hX.1.2.2.1 k_602 k_1 k_603 (by decide +kernel) ⟨by decide, by decide⟩ rfl hl.1 rfl (Nat.le_of_ble_eq_true rfl) d_Ru_matches_61 ⟨by decide, by decide⟩ (fun r N1 M_51 H locs hw hP hS => ?_)
              obtain ⟨rfl, hw⟩ := hw
              obtain ⟨rfl, rfl⟩ := hw
              refine W.eq (g2 := F0 m 64 ls [.int (nI (t0 % 256)), .int (nI 2), .ref x]) rfl ?_
              refine gc_V (q := (R_Ru, F_Ru, 5)) (n := 2) [.int (nI 2), .int (nI (t0 % 256))] [] hx hb hml hown hts hK hN hX hP hS (c_Ru_contains e1 e2 e3 hlw hhw (by omega) (by omega)) rfl e1 k_617 k_619 ks_Ru_contains k_5 k_620 (by decide +kernel) ⟨by decide, by decide⟩ rfl hl.1 rfl (Nat.le_of_ble_eq_true rfl) d_Ru_matches_64 ⟨by decide, by decide⟩ (fun r N1 M_52 H locs hw hP hS => ?_)
              obtain ⟨rfl, hw⟩ := hw
              rcases hw with ⟨c_53, rfl, rfl⟩ | ⟨c_54, rfl, rfl⟩
              · skip
                refine W.eq (g2 := F0 m 67 ls [.int (nI 1)]) rfl ?_
                refine lv_if_eq (tgt := 74) hx hb d_Ru_matches_67 (by decide) (fun q => absurd q (by decide)) (fun _ => ?_)
                refine lv_iconst (v := nI 1) hx hb d_Ru_matches_70 (by decide) ?_
                refine lv_goto (tgt := 75) hx hb d_Ru_matches_71 (by decide) ?_
                exact gc_zret hx hb hr hlk hP hS d_Ru_matches_75 rfl (by first | exact ⟨rfl, Or.inl ⟨(by (unfold mat; omega)), rfl, rfl⟩⟩ | exact ⟨rfl, Or.inr ⟨(by (unfold mat; omega)), rfl, rfl⟩⟩)
              · skip
                refine W.eq (g2 := F0 m 67 ls [.int (nI 0)]) rfl ?_
                refine lv_if_eq (tgt := 74) hx hb d_Ru_matches_67 (by decide) (fun _ => ?_) (fun q => absurd q (by decide))
                refine lv_iconst (v := nI 0) hx hb d_Ru_matches_74 (by decide) ?_
                exact gc_zret hx hb hr hlk hP hS d_Ru_matches_75 rfl (by first | exact ⟨rfl, Or.inl ⟨(by (unfold mat; omega)), rfl, rfl⟩⟩ | exact ⟨rfl, Or.inr ⟨(by (unfold mat; omega)), rfl, rfl⟩⟩)
            · skip
              refine W.eq (g2 := F0 m 54 ls [.int (nI 0)]) rfl ?_
              refine lv_if_eq (tgt := 74) hx hb d_Ru_matches_54 (by decide) (fun _ => ?_) (fun q => absurd q (by decide))
              refine lv_iconst (v := nI 0) hx hb d_Ru_matches_74 (by decide) ?_
              exact gc_zret hx hb hr hlk hP hS d_Ru_matches_75 rfl (by first | exact ⟨rfl, Or.inl ⟨(by (unfold mat; omega)), rfl, rfl⟩⟩ | exact ⟨rfl, Or.inr ⟨(by (unfold mat; omega)), rfl, rfl⟩⟩)
          · skip
            refine W.eq (g2 := F0 m 41 ls [.int (nI 0)]) rfl ?_
            refine lv_if_eq (tgt := 74) hx hb d_Ru_matches_41 (by decide) (fun _ => ?_) (fun q => absurd q (by decide))
            refine lv_iconst (v := nI 0) hx hb d_Ru_matches_74 (by decide) ?_
            exact gc_zret hx hb hr hlk hP hS d_Ru_matches_75 rfl (by first | exact ⟨rfl, Or.inl ⟨(by (unfold mat; omega)), rfl, rfl⟩⟩ | exact ⟨rfl, Or.inr ⟨(by (unfold mat; omega)), rfl, rfl⟩⟩)
set_option maxHeartbeats 4000000 in
set_option maxRecDepth 100000 in
theorem c_Ru_writeRange {y q a b : Nat} {t : List Nat} {f : Nat → Int32} (e4 : M y = some (.inr (4, [.ref q, .int (nI t.length)]))) (e5 : M q = some (.inl (ca 1, 40, .inl f))) (ht : t.length + 7 ≤ 40) (ha : a ≤ 255) (hb0 : b ≤ 255) (htx : txt f t) : gC l D ca A G y_Ru_writeRange (.code y_Ru_writeRange b_Ru_writeRange 3 none) ({ frames := 3, cells := 0, slots := 0, locals := 62 }) N M [.ref y, .int (nI a), .int (nI b)] gm_v (fun (_ : Unit) (N1 : Nat) (M1 : gm_M) => N = N1 ∧ ∃ (g : Nat → Int32), (txt g (t ++ rgx a b)) ∧ gm_up (gm_up M q (.inl (ca 1, 40, .inl g))) y (.inr (4, [.ref q, .int (nI (t ++ rgx a b).length)])) = M1) := by
  refine gm_body (by decide) (Nat.le_of_ble_eq_true rfl) (fun p e s m below meth c ls hx hb hr hts hown hlk hml hnm hP hK hN hX hS hl => ?_)
  have htl : ∀ w ∈ LW, w.before _ s = true := fun w h => hts w (List.mem_cons_of_mem _ h)
  have hown : s.vm.findClass "PacketGate$Rule" = some m.cls := hown
  have hl : lv_has ls 3 [(0, .ref y), (1, .int (nI a)), (2, .int (nI b))] := hl
  refine lv_iload_n hx hb d_Ru_writeRange_0 rfl (lv_at hl 1 rfl) ?_
  refine lz_ne (tgt := 18) hx hb d_Ru_writeRange_1 (by decide) (by omega) (fun c_1 => ?_) (fun c_1 => ?_)
  · skip
    refine lv_aload_n hx hb d_Ru_writeRange_18 rfl (lv_at hl 0 rfl) ?_
    refine lv_iload_n hx hb d_Ru_writeRange_19 rfl (lv_at hl 1 rfl) ?_
    refine gc_V (q := (R_Li, F_Li, 2)) (n := 1) [.int (nI a)] [] hx hb hml hown hts hK hN hX hP hS (c_Li_addNumber e4 e5 (by have := digs_len a; first | omega | (simp only [List.length_append, List.length_singleton, List.length_nil]; omega)) (by omega) htx) rfl e4 k_469 k_470 k_471 k_2 k_472 (by decide +kernel) ⟨by decide, by decide⟩ rfl hl.1 rfl (Nat.le_of_ble_eq_true rfl) d_Ru_writeRange_20 ⟨by decide, by decide⟩ (fun r N1 M_2 H locs hw hP hS => ?_)
    obtain ⟨rfl, hw⟩ := hw
    obtain ⟨gv_3, c_4, rfl⟩ := hw
    have h_5 := gm_pass (k := q) (y := .inl (ca 1, 40, .inl gv_3)) e4 (gm_ne e4 e5 (fun h => by cases h))
    have h_6 := gm_up_self M q (.inl (ca 1, 40, .inl gv_3))
    have hP : gm_P D cls A N (gm_up (gm_up M q (.inl (ca 1, 40, .inl gv_3))) y (.inr (4, [.ref q, .int (nI (t ++ digs a).length)]))) H := hP
    have h_7 := gm_pass (k := y) (y := .inr (4, [.ref q, .int (nI (t ++ digs a).length)])) h_6 (gm_ne h_6 h_5 (fun h => by cases h))
    have h_8 := gm_up_self (gm_up M q (.inl (ca 1, 40, .inl gv_3))) y (.inr (4, [.ref q, .int (nI (t ++ digs a).length)]))
    refine W.eq (g2 := F0 m 23 ls []) rfl ?_
    refine lv_iload_n hx hb d_Ru_writeRange_23 rfl (lv_at hl 1 rfl) ?_
    refine lv_iload_n hx hb d_Ru_writeRange_24 rfl (lv_at hl 2 rfl) ?_
    refine ln_eq (tgt := 39) hx hb d_Ru_writeRange_25 (by decide) (by omega) (by omega) (fun c_9 => ?_) (fun c_9 => ?_)
    · skip
      exact gc_vret hx hb hr hlk hP hS d_Ru_writeRange_39 (by have he : t ++ rgx a b = (t ++ digs a) := (by unfold rgx; (repeat (first | rw [if_pos (by omega)] | rw [if_neg (by omega)])) <;> (try simp only [List.append_assoc])); rw [he]; exact ⟨rfl, _, c_4, rfl⟩)
    · skip
      refine lv_aload_n hx hb d_Ru_writeRange_28 rfl (lv_at hl 0 rfl) ?_
      refine lv_bipush (v := nI 45) hx hb d_Ru_writeRange_29 (by decide) ?_
      refine gc_V (q := (R_Li, F_Li, 2)) (n := 1) [.int (nI 45)] [] hx hb hml hown hts hK hN hX hP hS (c_Li_add h_8 h_7 (by have := digs_len a; first | omega | (simp only [List.length_append, List.length_singleton, List.length_nil]; omega)) (by omega) c_4) rfl h_8 k_463 k_345 k_346 k_2 k_347 (by decide +kernel) ⟨by decide, by decide⟩ rfl hl.1 rfl (Nat.le_of_ble_eq_true rfl) d_Ru_writeRange_31 ⟨by decide, by decide⟩ (fun r N1 M_10 H locs hw hP hS => ?_)
      obtain ⟨rfl, hw⟩ := hw
      obtain ⟨gv_11, c_12, rfl⟩ := hw
      have he_13 : gm_up (gm_up (gm_up M q (.inl (ca 1, 40, .inl gv_3))) y (.inr (4, [.ref q, .int (nI (t ++ digs a).length)]))) q (.inl (ca 1, 40, .inl gv_11)) = gm_up (gm_up M q (.inl (ca 1, 40, .inl gv_11))) y (.inr (4, [.ref q, .int (nI (t ++ digs a).length)])) := (gm_swap (gm_ne h_8 h_7 (fun h => by cases h))).trans (congrArg (fun Z => gm_up Z y (.inr (4, [.ref q, .int (nI (t ++ digs a).length)]))) (gm_up_up _ _ _ _))
      have hP := Eq.mp (congrArg (fun Z => gm_P D cls A N (gm_up Z y (.inr (4, [.ref q, .int (nI ((t ++ digs a) ++ [45]).length)]))) H) he_13) hP
      have h_14 := (congrFun he_13 _).symm.trans (gm_pass (k := q) (y := .inl (ca 1, 40, .inl gv_11)) h_8 (gm_ne h_8 h_7 (fun h => by cases h)))
      have h_15 := (congrFun he_13 _).symm.trans (gm_up_self (gm_up (gm_up M q (.inl (ca 1, 40, .inl gv_3))) y (.inr (4, [.ref q, .int (nI (t ++ digs a).length)]))) q (.inl (ca 1, 40, .inl gv_11)))
      have he_16 : gm_up (gm_up (gm_up M q (.inl (ca 1, 40, .inl gv_11))) y (.inr (4, [.ref q, .int (nI (t ++ digs a).length)]))) y (.inr (4, [.ref q, .int (nI ((t ++ digs a) ++ [45]).length)])) = gm_up (gm_up M q (.inl (ca 1, 40, .inl gv_11))) y (.inr (4, [.ref q, .int (nI ((t ++ digs a) ++ [45]).length)])) := gm_up_up _ _ _ _
      have hP := Eq.mp (congrArg (fun Z => gm_P D cls A N (Z) H) he_16) hP
      have hP : gm_P D cls A N (gm_up (gm_up M q (.inl (ca 1, 40, .inl gv_11))) y (.inr (4, [.ref q, .int (nI ((t ++ digs a) ++ [45]).length)]))) H := hP
      have h_17 := (congrFun he_16 _).symm.trans (gm_pass (k := y) (y := .inr (4, [.ref q, .int (nI ((t ++ digs a) ++ [45]).length)])) h_15 (gm_ne h_15 h_14 (fun h => by cases h)))
      have h_18 := (congrFun he_16 _).symm.trans (gm_up_self (gm_up (gm_up M q (.inl (ca 1, 40, .inl gv_11))) y (.inr (4, [.ref q, .int (nI (t ++ digs a).length)]))) y (.inr (4, [.ref q, .int (nI ((t ++ digs a) ++ [45]).length)])))
      refine W.eq (g2 := F0 m 34 ls []) rfl ?_
      refine lv_aload_n hx hb d_Ru_writeRange_34 rfl (lv_at hl 0 rfl) ?_
      refine lv_iload_n hx hb d_Ru_writeRange_35 rfl (lv_at hl 2 rfl) ?_
      refine gc_V (q := (R_Li, F_Li, 2)) (n := 1) [.int (nI b)] [] hx hb hml hown hts hK hN hX hP hS (c_Li_addNumber h_18 h_17 (by have := digs_len a; first | omega | (simp only [List.length_append, List.length_singleton, List.length_nil]; omega)) (by omega) c_12) rfl h_18 k_469 k_470 k_471 k_2 k_472 (by decide +kernel) ⟨by decide, by decide⟩ rfl hl.1 rfl (Nat.le_of_ble_eq_true rfl) d_Ru_writeRange_36 ⟨by decide, by decide⟩ (fun r N1 M_19 H locs hw hP hS => ?_)
      obtain ⟨rfl, hw⟩ := hw
      obtain ⟨gv_20, c_21, rfl⟩ := hw
      have he_22 : gm_up (gm_up (gm_up M q (.inl (ca 1, 40, .inl gv_11))) y (.inr (4, [.ref q, .int (nI ((t ++ digs a) ++ [45]).length)]))) q (.inl (ca 1, 40, .inl gv_20)) = gm_up (gm_up M q (.inl (ca 1, 40, .inl gv_20))) y (.inr (4, [.ref q, .int (nI ((t ++ digs a) ++ [45]).length)])) := (gm_swap (gm_ne h_18 h_17 (fun h => by cases h))).trans (congrArg (fun Z => gm_up Z y (.inr (4, [.ref q, .int (nI ((t ++ digs a) ++ [45]).length)]))) (gm_up_up _ _ _ _))
      have hP := Eq.mp (congrArg (fun Z => gm_P D cls A N (gm_up Z y (.inr (4, [.ref q, .int (nI (((t ++ digs a) ++ [45]) ++ digs b).length)]))) H) he_22) hP
      have h_23 := (congrFun he_22 _).symm.trans (gm_pass (k := q) (y := .inl (ca 1, 40, .inl gv_20)) h_18 (gm_ne h_18 h_17 (fun h => by cases h)))
      have h_24 := (congrFun he_22 _).symm.trans (gm_up_self (gm_up (gm_up M q (.inl (ca 1, 40, .inl gv_11))) y (.inr (4, [.ref q, .int (nI ((t ++ digs a) ++ [45]).length)]))) q (.inl (ca 1, 40, .inl gv_20)))
      have he_25 : gm_up (gm_up (gm_up M q (.inl (ca 1, 40, .inl gv_20))) y (.inr (4, [.ref q, .int (nI ((t ++ digs a) ++ [45]).length)]))) y (.inr (4, [.ref q, .int (nI (((t ++ digs a) ++ [45]) ++ digs b).length)])) = gm_up (gm_up M q (.inl (ca 1, 40, .inl gv_20))) y (.inr (4, [.ref q, .int (nI (((t ++ digs a) ++ [45]) ++ digs b).length)])) := gm_up_up _ _ _ _
      have hP := Eq.mp (congrArg (fun Z => gm_P D cls A N (Z) H) he_25) hP
      have hP : gm_P D cls A N (gm_up (gm_up M q (.inl (ca 1, 40, .inl gv_20))) y (.inr (4, [.ref q, .int (nI (((t ++ digs a) ++ [45]) ++ digs b).length)]))) H := hP
      have h_26 := (congrFun he_25 _).symm.trans (gm_pass (k := y) (y := .inr (4, [.ref q, .int (nI (((t ++ digs a) ++ [45]) ++ digs b).length)])) h_24 (gm_ne h_24 h_23 (fun h => by cases h)))
      have h_27 := (congrFun he_25 _).symm.trans (gm_up_self (gm_up (gm_up M q (.inl (ca 1, 40, .inl gv_20))) y (.inr (4, [.ref q, .int (nI ((t ++ digs a) ++ [45]).length)]))) y (.inr (4, [.ref q, .int (nI (((t ++ digs a) ++ [45]) ++ digs b).length)])))
      refine W.eq (g2 := F0 m 39 ls []) rfl ?_
      exact gc_vret hx hb hr hlk hP hS d_Ru_writeRange_39 (by have he : t ++ rgx a b = (((t ++ digs a) ++ [45]) ++ digs b) := (by unfold rgx; (repeat (first | rw [if_pos (by omega)] | rw [if_neg (by omega)])) <;> (try simp only [List.append_assoc])); rw [he]; exact ⟨rfl, _, c_21, rfl⟩)
  · skip
    refine lv_iload_n hx hb d_Ru_writeRange_4 rfl (lv_at hl 2 rfl) ?_
    refine lv_sipush (v := nI 255) hx hb d_Ru_writeRange_5 (by decide) ?_
    refine ln_ne (tgt := 18) hx hb d_Ru_writeRange_8 (by decide) (by omega) (by omega) (fun c_28 => ?_) (fun c_28 => ?_)
    · skip
      refine lv_aload_n hx hb d_Ru_writeRange_18 rfl (lv_at hl 0 rfl) ?_
      refine lv_iload_n hx hb d_Ru_writeRange_19 rfl (lv_at hl 1 rfl) ?_
      refine gc_V (q := (R_Li, F_Li, 2)) (n := 1) [.int (nI a)] [] hx hb hml hown hts hK hN hX hP hS (c_Li_addNumber e4 e5 (by have := digs_len a; first | omega | (simp only [List.length_append, List.length_singleton, List.length_nil]; omega)) (by omega) htx) rfl e4 k_469 k_470 k_471 k_2 k_472 (by decide +kernel) ⟨by decide, by decide⟩ rfl hl.1 rfl (Nat.le_of_ble_eq_true rfl) d_Ru_writeRange_20 ⟨by decide, by decide⟩ (fun r N1 M_29 H locs hw hP hS => ?_)
      obtain ⟨rfl, hw⟩ := hw
      obtain ⟨gv_30, c_31, rfl⟩ := hw
      have h_32 := gm_pass (k := q) (y := .inl (ca 1, 40, .inl gv_30)) e4 (gm_ne e4 e5 (fun h => by cases h))
      have h_33 := gm_up_self M q (.inl (ca 1, 40, .inl gv_30))
      have hP : gm_P D cls A N (gm_up (gm_up M q (.inl (ca 1, 40, .inl gv_30))) y (.inr (4, [.ref q, .int (nI (t ++ digs a).length)]))) H := hP
      have h_34 := gm_pass (k := y) (y := .inr (4, [.ref q, .int (nI (t ++ digs a).length)])) h_33 (gm_ne h_33 h_32 (fun h => by cases h))
      have h_35 := gm_up_self (gm_up M q (.inl (ca 1, 40, .inl gv_30))) y (.inr (4, [.ref q, .int (nI (t ++ digs a).length)]))
      refine W.eq (g2 := F0 m 23 ls []) rfl ?_
      refine lv_iload_n hx hb d_Ru_writeRange_23 rfl (lv_at hl 1 rfl) ?_
      refine lv_iload_n hx hb d_Ru_writeRange_24 rfl (lv_at hl 2 rfl) ?_
      refine ln_eq (tgt := 39) hx hb d_Ru_writeRange_25 (by decide) (by omega) (by omega) (fun c_36 => ?_) (fun c_36 => ?_)
      · skip
        exact gc_vret hx hb hr hlk hP hS d_Ru_writeRange_39 (by have he : t ++ rgx a b = (t ++ digs a) := (by unfold rgx; (repeat (first | rw [if_pos (by omega)] | rw [if_neg (by omega)])) <;> (try simp only [List.append_assoc])); rw [he]; exact ⟨rfl, _, c_31, rfl⟩)
      · skip
        refine lv_aload_n hx hb d_Ru_writeRange_28 rfl (lv_at hl 0 rfl) ?_
        refine lv_bipush (v := nI 45) hx hb d_Ru_writeRange_29 (by decide) ?_
        refine gc_V (q := (R_Li, F_Li, 2)) (n := 1) [.int (nI 45)] [] hx hb hml hown hts hK hN hX hP hS (c_Li_add h_35 h_34 (by have := digs_len a; first | omega | (simp only [List.length_append, List.length_singleton, List.length_nil]; omega)) (by omega) c_31) rfl h_35 k_463 k_345 k_346 k_2 k_347 (by decide +kernel) ⟨by decide, by decide⟩ rfl hl.1 rfl (Nat.le_of_ble_eq_true rfl) d_Ru_writeRange_31 ⟨by decide, by decide⟩ (fun r N1 M_37 H locs hw hP hS => ?_)
        obtain ⟨rfl, hw⟩ := hw
        obtain ⟨gv_38, c_39, rfl⟩ := hw
        have he_40 : gm_up (gm_up (gm_up M q (.inl (ca 1, 40, .inl gv_30))) y (.inr (4, [.ref q, .int (nI (t ++ digs a).length)]))) q (.inl (ca 1, 40, .inl gv_38)) = gm_up (gm_up M q (.inl (ca 1, 40, .inl gv_38))) y (.inr (4, [.ref q, .int (nI (t ++ digs a).length)])) := (gm_swap (gm_ne h_35 h_34 (fun h => by cases h))).trans (congrArg (fun Z => gm_up Z y (.inr (4, [.ref q, .int (nI (t ++ digs a).length)]))) (gm_up_up _ _ _ _))
        have hP := Eq.mp (congrArg (fun Z => gm_P D cls A N (gm_up Z y (.inr (4, [.ref q, .int (nI ((t ++ digs a) ++ [45]).length)]))) H) he_40) hP
        have h_41 := (congrFun he_40 _).symm.trans (gm_pass (k := q) (y := .inl (ca 1, 40, .inl gv_38)) h_35 (gm_ne h_35 h_34 (fun h => by cases h)))
        have h_42 := (congrFun he_40 _).symm.trans (gm_up_self (gm_up (gm_up M q (.inl (ca 1, 40, .inl gv_30))) y (.inr (4, [.ref q, .int (nI (t ++ digs a).length)]))) q (.inl (ca 1, 40, .inl gv_38)))
        have he_43 : gm_up (gm_up (gm_up M q (.inl (ca 1, 40, .inl gv_38))) y (.inr (4, [.ref q, .int (nI (t ++ digs a).length)]))) y (.inr (4, [.ref q, .int (nI ((t ++ digs a) ++ [45]).length)])) = gm_up (gm_up M q (.inl (ca 1, 40, .inl gv_38))) y (.inr (4, [.ref q, .int (nI ((t ++ digs a) ++ [45]).length)])) := gm_up_up _ _ _ _
        have hP := Eq.mp (congrArg (fun Z => gm_P D cls A N (Z) H) he_43) hP
        have hP : gm_P D cls A N (gm_up (gm_up M q (.inl (ca 1, 40, .inl gv_38))) y (.inr (4, [.ref q, .int (nI ((t ++ digs a) ++ [45]).length)]))) H := hP
        have h_44 := (congrFun he_43 _).symm.trans (gm_pass (k := y) (y := .inr (4, [.ref q, .int (nI ((t ++ digs a) ++ [45]).length)])) h_42 (gm_ne h_42 h_41 (fun h => by cases h)))
        have h_45 := (congrFun he_43 _).symm.trans (gm_up_self (gm_up (gm_up M q (.inl (ca 1, 40, .inl gv_38))) y (.inr (4, [.ref q, .int (nI (t ++ digs a).length)]))) y (.inr (4, [.ref q, .int (nI ((t ++ digs a) ++ [45]).length)])))
        refine W.eq (g2 := F0 m 34 ls []) rfl ?_
        refine lv_aload_n hx hb d_Ru_writeRange_34 rfl (lv_at hl 0 rfl) ?_
        refine lv_iload_n hx hb d_Ru_writeRange_35 rfl (lv_at hl 2 rfl) ?_
        refine gc_V (q := (R_Li, F_Li, 2)) (n := 1) [.int (nI b)] [] hx hb hml hown hts hK hN hX hP hS (c_Li_addNumber h_45 h_44 (by have := digs_len a; first | omega | (simp only [List.length_append, List.length_singleton, List.length_nil]; omega)) (by omega) c_39) rfl h_45 k_469 k_470 k_471 k_2 k_472 (by decide +kernel) ⟨by decide, by decide⟩ rfl hl.1 rfl (Nat.le_of_ble_eq_true rfl) d_Ru_writeRange_36 ⟨by decide, by decide⟩ (fun r N1 M_46 H locs hw hP hS => ?_)
        obtain ⟨rfl, hw⟩ := hw
        obtain ⟨gv_47, c_48, rfl⟩ := hw
        have he_49 : gm_up (gm_up (gm_up M q (.inl (ca 1, 40, .inl gv_38))) y (.inr (4, [.ref q, .int (nI ((t ++ digs a) ++ [45]).length)]))) q (.inl (ca 1, 40, .inl gv_47)) = gm_up (gm_up M q (.inl (ca 1, 40, .inl gv_47))) y (.inr (4, [.ref q, .int (nI ((t ++ digs a) ++ [45]).length)])) := (gm_swap (gm_ne h_45 h_44 (fun h => by cases h))).trans (congrArg (fun Z => gm_up Z y (.inr (4, [.ref q, .int (nI ((t ++ digs a) ++ [45]).length)]))) (gm_up_up _ _ _ _))
        have hP := Eq.mp (congrArg (fun Z => gm_P D cls A N (gm_up Z y (.inr (4, [.ref q, .int (nI (((t ++ digs a) ++ [45]) ++ digs b).length)]))) H) he_49) hP
        have h_50 := (congrFun he_49 _).symm.trans (gm_pass (k := q) (y := .inl (ca 1, 40, .inl gv_47)) h_45 (gm_ne h_45 h_44 (fun h => by cases h)))
        have h_51 := (congrFun he_49 _).symm.trans (gm_up_self (gm_up (gm_up M q (.inl (ca 1, 40, .inl gv_38))) y (.inr (4, [.ref q, .int (nI ((t ++ digs a) ++ [45]).length)]))) q (.inl (ca 1, 40, .inl gv_47)))
        have he_52 : gm_up (gm_up (gm_up M q (.inl (ca 1, 40, .inl gv_47))) y (.inr (4, [.ref q, .int (nI ((t ++ digs a) ++ [45]).length)]))) y (.inr (4, [.ref q, .int (nI (((t ++ digs a) ++ [45]) ++ digs b).length)])) = gm_up (gm_up M q (.inl (ca 1, 40, .inl gv_47))) y (.inr (4, [.ref q, .int (nI (((t ++ digs a) ++ [45]) ++ digs b).length)])) := gm_up_up _ _ _ _
        have hP := Eq.mp (congrArg (fun Z => gm_P D cls A N (Z) H) he_52) hP
        have hP : gm_P D cls A N (gm_up (gm_up M q (.inl (ca 1, 40, .inl gv_47))) y (.inr (4, [.ref q, .int (nI (((t ++ digs a) ++ [45]) ++ digs b).length)]))) H := hP
        have h_53 := (congrFun he_52 _).symm.trans (gm_pass (k := y) (y := .inr (4, [.ref q, .int (nI (((t ++ digs a) ++ [45]) ++ digs b).length)])) h_51 (gm_ne h_51 h_50 (fun h => by cases h)))
        have h_54 := (congrFun he_52 _).symm.trans (gm_up_self (gm_up (gm_up M q (.inl (ca 1, 40, .inl gv_47))) y (.inr (4, [.ref q, .int (nI ((t ++ digs a) ++ [45]).length)]))) y (.inr (4, [.ref q, .int (nI (((t ++ digs a) ++ [45]) ++ digs b).length)])))
        refine W.eq (g2 := F0 m 39 ls []) rfl ?_
        exact gc_vret hx hb hr hlk hP hS d_Ru_writeRange_39 (by have he : t ++ rgx a b = (((t ++ digs a) ++ [45]) ++ digs b) := (by unfold rgx; (repeat (first | rw [if_pos (by omega)] | rw [if_neg (by omega)])) <;> (try simp only [List.append_assoc])); rw [he]; exact ⟨rfl, _, c_48, rfl⟩)
    · skip
      refine lv_aload_n hx hb d_Ru_writeRange_11 rfl (lv_at hl 0 rfl) ?_
      refine lv_bipush (v := nI 42) hx hb d_Ru_writeRange_12 (by decide) ?_
      refine gc_V (q := (R_Li, F_Li, 2)) (n := 1) [.int (nI 42)] [] hx hb hml hown hts hK hN hX hP hS (c_Li_add e4 e5 (by have := digs_len a; first | omega | (simp only [List.length_append, List.length_singleton, List.length_nil]; omega)) (by omega) htx) rfl e4 k_463 k_345 k_346 k_2 k_347 (by decide +kernel) ⟨by decide, by decide⟩ rfl hl.1 rfl (Nat.le_of_ble_eq_true rfl) d_Ru_writeRange_14 ⟨by decide, by decide⟩ (fun r N1 M_55 H locs hw hP hS => ?_)
      obtain ⟨rfl, hw⟩ := hw
      obtain ⟨gv_56, c_57, rfl⟩ := hw
      have h_58 := gm_pass (k := q) (y := .inl (ca 1, 40, .inl gv_56)) e4 (gm_ne e4 e5 (fun h => by cases h))
      have h_59 := gm_up_self M q (.inl (ca 1, 40, .inl gv_56))
      have hP : gm_P D cls A N (gm_up (gm_up M q (.inl (ca 1, 40, .inl gv_56))) y (.inr (4, [.ref q, .int (nI (t ++ [42]).length)]))) H := hP
      have h_60 := gm_pass (k := y) (y := .inr (4, [.ref q, .int (nI (t ++ [42]).length)])) h_59 (gm_ne h_59 h_58 (fun h => by cases h))
      have h_61 := gm_up_self (gm_up M q (.inl (ca 1, 40, .inl gv_56))) y (.inr (4, [.ref q, .int (nI (t ++ [42]).length)]))
      refine W.eq (g2 := F0 m 17 ls []) rfl ?_
      exact gc_vret hx hb hr hlk hP hS d_Ru_writeRange_17 (by have he : t ++ rgx a b = (t ++ [42]) := (by unfold rgx; (repeat (first | rw [if_pos (by omega)] | rw [if_neg (by omega)])) <;> (try simp only [List.append_assoc])); rw [he]; exact ⟨rfl, _, c_57, rfl⟩)
set_option maxHeartbeats 4000000 in
set_option maxRecDepth 100000 in
theorem c_Ru_write {x u v : Nat} {lw hw : Nat → Nat} {ac dr po : Nat} {y q : Nat} {t : List Nat} {f : Nat → Int32} (e1 : M x = some (.inr (5, [.int (nI ac), .int (nI dr), .int (nI po), .ref u, .ref v]))) (e2 : M u = some (.inl (ca 0, 3, .inl (iN lw)))) (e3 : M v = some (.inl (ca 0, 3, .inl (iN hw)))) (e4 : M y = some (.inr (4, [.ref q, .int (nI t.length)]))) (e5 : M q = some (.inl (ca 1, 40, .inl f))) (hlw : ∀ q, lw q ≤ 255) (hhw : ∀ q, hw q ≤ 255) (hac : ac < 3) (hdr : dr < 3) (hpo : po < 4) : gC l D ca A G y_Ru_write (.code y_Ru_write b_Ru_write 3 none) ({ frames := 4, cells := 0, slots := 0, locals := 85 }) N M [.ref x, .ref y] gm_v (fun (_ : Unit) (N1 : Nat) (M1 : gm_M) => N = N1 ∧ ∃ (g : Nat → Int32), (txt g (rtx ac dr po lw hw)) ∧ gm_up (gm_up M y (.inr (4, [.ref q, .int (nI (rtx ac dr po lw hw).length)]))) q (.inl (ca 1, 40, .inl g)) = M1) := by
  refine gm_body (by decide) (Nat.le_of_ble_eq_true rfl) (fun p e s m below meth c ls hx hb hr hts hown hlk hml hnm hP hK hN hX hS hl => ?_)
  have htl : ∀ w ∈ LW, w.before _ s = true := fun w h => hts w (List.mem_cons_of_mem _ h)
  have hown : s.vm.findClass "PacketGate$Rule" = some m.cls := hown
  have hl : lv_has ls 3 [(0, .ref x), (1, .ref y)] := hl
  have hg0 := rgx_len (lw 0) (hw 0)
  have hg1 := rgx_len (lw 1) (hw 1)
  have hg2 := rgx_len (lw 2) (hw 2)
  have hc1 := (tc_ok 1 (by decide) ac hac).2
  have hc2 := (tc_ok 2 (by decide) dr hdr).2
  have hc3 := (tc_ok 3 (by decide) po hpo).2
  refine lv_aload_n hx hb d_Ru_write_0 rfl (lv_at hl 1 rfl) ?_
  refine gc_V (q := (R_Li, F_Li, 2)) (n := 0) [] [] hx hb hml hown hts hK hN hX hP hS (c_Li_clear e4) rfl e4 k_441 k_414 k_415 k_2 k_416 (by decide +kernel) ⟨by decide, by decide⟩ rfl hl.1 rfl (Nat.le_of_ble_eq_true rfl) d_Ru_write_1 ⟨by decide, by decide⟩ (fun r N1 M_1 H locs hw hP hS => ?_)
  obtain ⟨rfl, hw⟩ := hw
  obtain rfl := hw
  have hP : gm_P D cls A N (gm_up M y (.inr (4, [.ref q, .int (nI ([] : List Nat).length)]))) H := hP
  have h_2 := gm_pass (k := y) (y := .inr (4, [.ref q, .int (nI ([] : List Nat).length)])) e1 (gm_ne e1 e4 (fun h => by cases h))
  have h_3 := gm_pass (k := y) (y := .inr (4, [.ref q, .int (nI ([] : List Nat).length)])) e2 (gm_ne e2 e4 (fun h => by cases h))
  have h_4 := gm_pass (k := y) (y := .inr (4, [.ref q, .int (nI ([] : List Nat).length)])) e3 (gm_ne e3 e4 (fun h => by cases h))
  have h_5 := gm_pass (k := y) (y := .inr (4, [.ref q, .int (nI ([] : List Nat).length)])) e5 (gm_ne e5 e4 (fun h => by cases h))
  have h_6 := gm_up_self M y (.inr (4, [.ref q, .int (nI ([] : List Nat).length)]))
  refine W.eq (g2 := F0 m 4 ls []) rfl ?_
  refine lv_aload_n hx hb d_Ru_write_4 rfl (lv_at hl 1 rfl) ?_
  refine va_ldcS hx hb hown hX.2.2.1.2.2.2.2.1 d_Ru_write_5 ?_
  refine lv_aload_n hx hb d_Ru_write_7 rfl (lv_at hl 0 rfl) ?_
  refine gm_get (C := R_Ru) (T := F_Ru) (n := 5) hx hb htl i_Ru hown hK hP h_2 rfl 0 (by decide) (htl _ k_65) (fun _ h => h) rfl d_Ru_write_8 ?_
  refine gc_T (n := 1) [.int (nI ac)] [.ref y] hx hb hml hown hts hK hN hX hP hS (c_St_charAt 1 ac (by decide) (by assumption)) (vk_recv hX.2.2.2.1 (by omega) hS) k_443 k_444 k_445 k_11 k_446 (by decide +kernel) ⟨by decide, by decide⟩ rfl hl.1 rfl (Nat.le_of_ble_eq_true rfl) d_Ru_write_11 ⟨by decide, by decide⟩ (fun r N1 M_7 H locs hw hP hS => ?_)
  obtain ⟨rfl, hw⟩ := hw
  obtain ⟨rfl, rfl⟩ := hw
  refine W.eq (g2 := F0 m 14 ls [.int (nI (tc 1 ac)), .ref y]) rfl ?_
  refine gc_V (q := (R_Li, F_Li, 2)) (n := 1) [.int (nI (tc 1 ac))] [] hx hb hml hown hts hK hN hX hP hS (c_Li_add h_6 h_5 (by first | omega | (simp only [List.length_append, List.length_singleton, List.length_nil]; omega)) (by omega) (txt_nil f)) rfl h_6 k_463 k_345 k_346 k_2 k_347 (by decide +kernel) ⟨by decide, by decide⟩ rfl hl.1 rfl (Nat.le_of_ble_eq_true rfl) d_Ru_write_14 ⟨by decide, by decide⟩ (fun r N1 M_8 H locs hw hP hS => ?_)
  obtain ⟨rfl, hw⟩ := hw
  obtain ⟨gv_9, c_10, rfl⟩ := hw
  have h_11 := gm_pass (k := q) (y := .inl (ca 1, 40, .inl gv_9)) h_2 (gm_ne h_2 h_5 (fun h => by cases h))
  have h_12 := gm_pass (k := q) (y := .inl (ca 1, 40, .inl gv_9)) h_3 (gm_ne h_3 h_5 (fun h => by simp at h))
  have h_13 := gm_pass (k := q) (y := .inl (ca 1, 40, .inl gv_9)) h_4 (gm_ne h_4 h_5 (fun h => by simp at h))
  have h_14 := gm_pass (k := q) (y := .inl (ca 1, 40, .inl gv_9)) h_6 (gm_ne h_6 h_5 (fun h => by cases h))
  have h_15 := gm_up_self (gm_up M y (.inr (4, [.ref q, .int (nI ([] : List Nat).length)]))) q (.inl (ca 1, 40, .inl gv_9))
  have he_16 : gm_up (gm_up (gm_up M y (.inr (4, [.ref q, .int (nI ([] : List Nat).length)]))) q (.inl (ca 1, 40, .inl gv_9))) y (.inr (4, [.ref q, .int (nI (([] : List Nat) ++ [(tc 1 ac)]).length)])) = gm_up (gm_up M y (.inr (4, [.ref q, .int (nI (([] : List Nat) ++ [(tc 1 ac)]).length)]))) q (.inl (ca 1, 40, .inl gv_9)) := (gm_swap (gm_ne h_15 h_14 (fun h => by cases h))).trans (congrArg (fun Z => gm_up Z q (.inl (ca 1, 40, .inl gv_9))) (gm_up_up _ _ _ _))
  have hP := Eq.mp (congrArg (fun Z => gm_P D cls A N (Z) H) he_16) hP
  have hP : gm_P D cls A N (gm_up (gm_up M y (.inr (4, [.ref q, .int (nI (([] : List Nat) ++ [(tc 1 ac)]).length)]))) q (.inl (ca 1, 40, .inl gv_9))) H := hP
  have h_17 := (congrFun he_16 _).symm.trans (gm_pass (k := y) (y := .inr (4, [.ref q, .int (nI (([] : List Nat) ++ [(tc 1 ac)]).length)])) h_11 (gm_ne h_11 h_14 (fun h => by cases h)))
  have h_18 := (congrFun he_16 _).symm.trans (gm_pass (k := y) (y := .inr (4, [.ref q, .int (nI (([] : List Nat) ++ [(tc 1 ac)]).length)])) h_12 (gm_ne h_12 h_14 (fun h => by cases h)))
  have h_19 := (congrFun he_16 _).symm.trans (gm_pass (k := y) (y := .inr (4, [.ref q, .int (nI (([] : List Nat) ++ [(tc 1 ac)]).length)])) h_13 (gm_ne h_13 h_14 (fun h => by cases h)))
  have h_20 := (congrFun he_16 _).symm.trans (gm_pass (k := y) (y := .inr (4, [.ref q, .int (nI (([] : List Nat) ++ [(tc 1 ac)]).length)])) h_15 (gm_ne h_15 h_14 (fun h => by cases h)))
  have h_21 := (congrFun he_16 _).symm.trans (gm_up_self (gm_up (gm_up M y (.inr (4, [.ref q, .int (nI ([] : List Nat).length)]))) q (.inl (ca 1, 40, .inl gv_9))) y (.inr (4, [.ref q, .int (nI (([] : List Nat) ++ [(tc 1 ac)]).length)])))
  refine W.eq (g2 := F0 m 17 ls []) rfl ?_
  refine lv_aload_n hx hb d_Ru_write_17 rfl (lv_at hl 1 rfl) ?_
  refine va_ldcS hx hb hown hX.2.2.1.2.2.2.2.2.1 d_Ru_write_18 ?_
  refine lv_aload_n hx hb d_Ru_write_20 rfl (lv_at hl 0 rfl) ?_
  refine gm_get (C := R_Ru) (T := F_Ru) (n := 5) hx hb htl i_Ru hown hK hP h_17 rfl 1 (by decide) (htl _ k_68) (fun _ h => h) rfl d_Ru_write_21 ?_
  refine gc_T (n := 1) [.int (nI dr)] [.ref y] hx hb hml hown hts hK hN hX hP hS (c_St_charAt 2 dr (by decide) (by assumption)) (vk_recv hX.2.2.2.1 (by omega) hS) k_443 k_444 k_445 k_11 k_446 (by decide +kernel) ⟨by decide, by decide⟩ rfl hl.1 rfl (Nat.le_of_ble_eq_true rfl) d_Ru_write_24 ⟨by decide, by decide⟩ (fun r N1 M_22 H locs hw hP hS => ?_)
  obtain ⟨rfl, hw⟩ := hw
  obtain ⟨rfl, rfl⟩ := hw
  refine W.eq (g2 := F0 m 27 ls [.int (nI (tc 2 dr)), .ref y]) rfl ?_
  refine gc_V (q := (R_Li, F_Li, 2)) (n := 1) [.int (nI (tc 2 dr))] [] hx hb hml hown hts hK hN hX hP hS (c_Li_add h_21 h_20 (by first | omega | (simp only [List.length_append, List.length_singleton, List.length_nil]; omega)) (by omega) c_10) rfl h_21 k_463 k_345 k_346 k_2 k_347 (by decide +kernel) ⟨by decide, by decide⟩ rfl hl.1 rfl (Nat.le_of_ble_eq_true rfl) d_Ru_write_27 ⟨by decide, by decide⟩ (fun r N1 M_23 H locs hw hP hS => ?_)
  obtain ⟨rfl, hw⟩ := hw
  obtain ⟨gv_24, c_25, rfl⟩ := hw
  have he_26 : gm_up (gm_up (gm_up M y (.inr (4, [.ref q, .int (nI (([] : List Nat) ++ [(tc 1 ac)]).length)]))) q (.inl (ca 1, 40, .inl gv_9))) q (.inl (ca 1, 40, .inl gv_24)) = gm_up (gm_up M y (.inr (4, [.ref q, .int (nI (([] : List Nat) ++ [(tc 1 ac)]).length)]))) q (.inl (ca 1, 40, .inl gv_24)) := gm_up_up _ _ _ _
  have hP := Eq.mp (congrArg (fun Z => gm_P D cls A N (gm_up Z y (.inr (4, [.ref q, .int (nI ((([] : List Nat) ++ [(tc 1 ac)]) ++ [(tc 2 dr)]).length)]))) H) he_26) hP
  have h_27 := (congrFun he_26 _).symm.trans (gm_pass (k := q) (y := .inl (ca 1, 40, .inl gv_24)) h_17 (gm_ne h_17 h_20 (fun h => by cases h)))
  have h_28 := (congrFun he_26 _).symm.trans (gm_pass (k := q) (y := .inl (ca 1, 40, .inl gv_24)) h_18 (gm_ne h_18 h_20 (fun h => by simp at h)))
  have h_29 := (congrFun he_26 _).symm.trans (gm_pass (k := q) (y := .inl (ca 1, 40, .inl gv_24)) h_19 (gm_ne h_19 h_20 (fun h => by simp at h)))
  have h_30 := (congrFun he_26 _).symm.trans (gm_pass (k := q) (y := .inl (ca 1, 40, .inl gv_24)) h_21 (gm_ne h_21 h_20 (fun h => by cases h)))
  have h_31 := (congrFun he_26 _).symm.trans (gm_up_self (gm_up (gm_up M y (.inr (4, [.ref q, .int (nI (([] : List Nat) ++ [(tc 1 ac)]).length)]))) q (.inl (ca 1, 40, .inl gv_9))) q (.inl (ca 1, 40, .inl gv_24)))
  have he_32 : gm_up (gm_up (gm_up M y (.inr (4, [.ref q, .int (nI (([] : List Nat) ++ [(tc 1 ac)]).length)]))) q (.inl (ca 1, 40, .inl gv_24))) y (.inr (4, [.ref q, .int (nI ((([] : List Nat) ++ [(tc 1 ac)]) ++ [(tc 2 dr)]).length)])) = gm_up (gm_up M y (.inr (4, [.ref q, .int (nI ((([] : List Nat) ++ [(tc 1 ac)]) ++ [(tc 2 dr)]).length)]))) q (.inl (ca 1, 40, .inl gv_24)) := (gm_swap (gm_ne h_31 h_30 (fun h => by cases h))).trans (congrArg (fun Z => gm_up Z q (.inl (ca 1, 40, .inl gv_24))) (gm_up_up _ _ _ _))
  have hP := Eq.mp (congrArg (fun Z => gm_P D cls A N (Z) H) he_32) hP
  have hP : gm_P D cls A N (gm_up (gm_up M y (.inr (4, [.ref q, .int (nI ((([] : List Nat) ++ [(tc 1 ac)]) ++ [(tc 2 dr)]).length)]))) q (.inl (ca 1, 40, .inl gv_24))) H := hP
  have h_33 := (congrFun he_32 _).symm.trans (gm_pass (k := y) (y := .inr (4, [.ref q, .int (nI ((([] : List Nat) ++ [(tc 1 ac)]) ++ [(tc 2 dr)]).length)])) h_27 (gm_ne h_27 h_30 (fun h => by cases h)))
  have h_34 := (congrFun he_32 _).symm.trans (gm_pass (k := y) (y := .inr (4, [.ref q, .int (nI ((([] : List Nat) ++ [(tc 1 ac)]) ++ [(tc 2 dr)]).length)])) h_28 (gm_ne h_28 h_30 (fun h => by cases h)))
  have h_35 := (congrFun he_32 _).symm.trans (gm_pass (k := y) (y := .inr (4, [.ref q, .int (nI ((([] : List Nat) ++ [(tc 1 ac)]) ++ [(tc 2 dr)]).length)])) h_29 (gm_ne h_29 h_30 (fun h => by cases h)))
  have h_36 := (congrFun he_32 _).symm.trans (gm_pass (k := y) (y := .inr (4, [.ref q, .int (nI ((([] : List Nat) ++ [(tc 1 ac)]) ++ [(tc 2 dr)]).length)])) h_31 (gm_ne h_31 h_30 (fun h => by cases h)))
  have h_37 := (congrFun he_32 _).symm.trans (gm_up_self (gm_up (gm_up M y (.inr (4, [.ref q, .int (nI (([] : List Nat) ++ [(tc 1 ac)]).length)]))) q (.inl (ca 1, 40, .inl gv_24))) y (.inr (4, [.ref q, .int (nI ((([] : List Nat) ++ [(tc 1 ac)]) ++ [(tc 2 dr)]).length)])))
  refine W.eq (g2 := F0 m 30 ls []) rfl ?_
  refine lv_aload_n hx hb d_Ru_write_30 rfl (lv_at hl 1 rfl) ?_
  refine va_ldcS hx hb hown hX.2.2.1.2.2.2.2.2.2 d_Ru_write_31 ?_
  refine lv_aload_n hx hb d_Ru_write_33 rfl (lv_at hl 0 rfl) ?_
  refine gm_get (C := R_Ru) (T := F_Ru) (n := 5) hx hb htl i_Ru hown hK hP h_33 rfl 2 (by decide) (htl _ k_70) (fun _ h => h) rfl d_Ru_write_34 ?_
  refine gc_T (n := 1) [.int (nI po)] [.ref y] hx hb hml hown hts hK hN hX hP hS (c_St_charAt 3 po (by decide) (by assumption)) (vk_recv hX.2.2.2.1 (by omega) hS) k_443 k_444 k_445 k_11 k_446 (by decide +kernel) ⟨by decide, by decide⟩ rfl hl.1 rfl (Nat.le_of_ble_eq_true rfl) d_Ru_write_37 ⟨by decide, by decide⟩ (fun r N1 M_38 H locs hw hP hS => ?_)
  obtain ⟨rfl, hw⟩ := hw
  obtain ⟨rfl, rfl⟩ := hw
  refine W.eq (g2 := F0 m 40 ls [.int (nI (tc 3 po)), .ref y]) rfl ?_
  refine gc_V (q := (R_Li, F_Li, 2)) (n := 1) [.int (nI (tc 3 po))] [] hx hb hml hown hts hK hN hX hP hS (c_Li_add h_37 h_36 (by first | omega | (simp only [List.length_append, List.length_singleton, List.length_nil]; omega)) (by omega) c_25) rfl h_37 k_463 k_345 k_346 k_2 k_347 (by decide +kernel) ⟨by decide, by decide⟩ rfl hl.1 rfl (Nat.le_of_ble_eq_true rfl) d_Ru_write_40 ⟨by decide, by decide⟩ (fun r N1 M_39 H locs hw hP hS => ?_)
  obtain ⟨rfl, hw⟩ := hw
  obtain ⟨gv_40, c_41, rfl⟩ := hw
  have he_42 : gm_up (gm_up (gm_up M y (.inr (4, [.ref q, .int (nI ((([] : List Nat) ++ [(tc 1 ac)]) ++ [(tc 2 dr)]).length)]))) q (.inl (ca 1, 40, .inl gv_24))) q (.inl (ca 1, 40, .inl gv_40)) = gm_up (gm_up M y (.inr (4, [.ref q, .int (nI ((([] : List Nat) ++ [(tc 1 ac)]) ++ [(tc 2 dr)]).length)]))) q (.inl (ca 1, 40, .inl gv_40)) := gm_up_up _ _ _ _
  have hP := Eq.mp (congrArg (fun Z => gm_P D cls A N (gm_up Z y (.inr (4, [.ref q, .int (nI (((([] : List Nat) ++ [(tc 1 ac)]) ++ [(tc 2 dr)]) ++ [(tc 3 po)]).length)]))) H) he_42) hP
  have h_43 := (congrFun he_42 _).symm.trans (gm_pass (k := q) (y := .inl (ca 1, 40, .inl gv_40)) h_33 (gm_ne h_33 h_36 (fun h => by cases h)))
  have h_44 := (congrFun he_42 _).symm.trans (gm_pass (k := q) (y := .inl (ca 1, 40, .inl gv_40)) h_34 (gm_ne h_34 h_36 (fun h => by simp at h)))
  have h_45 := (congrFun he_42 _).symm.trans (gm_pass (k := q) (y := .inl (ca 1, 40, .inl gv_40)) h_35 (gm_ne h_35 h_36 (fun h => by simp at h)))
  have h_46 := (congrFun he_42 _).symm.trans (gm_pass (k := q) (y := .inl (ca 1, 40, .inl gv_40)) h_37 (gm_ne h_37 h_36 (fun h => by cases h)))
  have h_47 := (congrFun he_42 _).symm.trans (gm_up_self (gm_up (gm_up M y (.inr (4, [.ref q, .int (nI ((([] : List Nat) ++ [(tc 1 ac)]) ++ [(tc 2 dr)]).length)]))) q (.inl (ca 1, 40, .inl gv_24))) q (.inl (ca 1, 40, .inl gv_40)))
  have he_48 : gm_up (gm_up (gm_up M y (.inr (4, [.ref q, .int (nI ((([] : List Nat) ++ [(tc 1 ac)]) ++ [(tc 2 dr)]).length)]))) q (.inl (ca 1, 40, .inl gv_40))) y (.inr (4, [.ref q, .int (nI (((([] : List Nat) ++ [(tc 1 ac)]) ++ [(tc 2 dr)]) ++ [(tc 3 po)]).length)])) = gm_up (gm_up M y (.inr (4, [.ref q, .int (nI (((([] : List Nat) ++ [(tc 1 ac)]) ++ [(tc 2 dr)]) ++ [(tc 3 po)]).length)]))) q (.inl (ca 1, 40, .inl gv_40)) := (gm_swap (gm_ne h_47 h_46 (fun h => by cases h))).trans (congrArg (fun Z => gm_up Z q (.inl (ca 1, 40, .inl gv_40))) (gm_up_up _ _ _ _))
  have hP := Eq.mp (congrArg (fun Z => gm_P D cls A N (Z) H) he_48) hP
  have hP : gm_P D cls A N (gm_up (gm_up M y (.inr (4, [.ref q, .int (nI (((([] : List Nat) ++ [(tc 1 ac)]) ++ [(tc 2 dr)]) ++ [(tc 3 po)]).length)]))) q (.inl (ca 1, 40, .inl gv_40))) H := hP
  have h_49 := (congrFun he_48 _).symm.trans (gm_pass (k := y) (y := .inr (4, [.ref q, .int (nI (((([] : List Nat) ++ [(tc 1 ac)]) ++ [(tc 2 dr)]) ++ [(tc 3 po)]).length)])) h_43 (gm_ne h_43 h_46 (fun h => by cases h)))
  have h_50 := (congrFun he_48 _).symm.trans (gm_pass (k := y) (y := .inr (4, [.ref q, .int (nI (((([] : List Nat) ++ [(tc 1 ac)]) ++ [(tc 2 dr)]) ++ [(tc 3 po)]).length)])) h_44 (gm_ne h_44 h_46 (fun h => by cases h)))
  have h_51 := (congrFun he_48 _).symm.trans (gm_pass (k := y) (y := .inr (4, [.ref q, .int (nI (((([] : List Nat) ++ [(tc 1 ac)]) ++ [(tc 2 dr)]) ++ [(tc 3 po)]).length)])) h_45 (gm_ne h_45 h_46 (fun h => by cases h)))
  have h_52 := (congrFun he_48 _).symm.trans (gm_pass (k := y) (y := .inr (4, [.ref q, .int (nI (((([] : List Nat) ++ [(tc 1 ac)]) ++ [(tc 2 dr)]) ++ [(tc 3 po)]).length)])) h_47 (gm_ne h_47 h_46 (fun h => by cases h)))
  have h_53 := (congrFun he_48 _).symm.trans (gm_up_self (gm_up (gm_up M y (.inr (4, [.ref q, .int (nI ((([] : List Nat) ++ [(tc 1 ac)]) ++ [(tc 2 dr)]).length)]))) q (.inl (ca 1, 40, .inl gv_40))) y (.inr (4, [.ref q, .int (nI (((([] : List Nat) ++ [(tc 1 ac)]) ++ [(tc 2 dr)]) ++ [(tc 3 po)]).length)])))
  refine W.eq (g2 := F0 m 43 ls []) rfl ?_
  refine lv_iconst (v := nI 0) hx hb d_Ru_write_43 (by decide) ?_
  refine lv_istore_n (lv' := [(2, .int (nI 0)), (0, .ref x), (1, .ref y)]) hx hb d_Ru_write_44 rfl hl (by decide) rfl (fun ls hl => ?_)
  refine lv_iload_n hx hb d_Ru_write_45 rfl (lv_at hl 0 rfl) ?_
  refine lv_iconst (v := nI 3) hx hb d_Ru_write_46 (by decide) ?_
  refine lv_icmp_ge (tgt := 82) hx hb d_Ru_write_47 (by decide) (fun q => absurd q (by decide)) (fun _ => ?_)
  refine lv_iload_n hx hb d_Ru_write_50 rfl (lv_at hl 0 rfl) ?_
  refine lv_if_le (tgt := 60) hx hb d_Ru_write_51 (by decide) (fun _ => ?_) (fun q => absurd q (by decide))
  refine lv_aload_n hx hb d_Ru_write_60 rfl (lv_at hl 2 rfl) ?_
  refine lv_aload_n hx hb d_Ru_write_61 rfl (lv_at hl 1 rfl) ?_
  refine gm_get (C := R_Ru) (T := F_Ru) (n := 5) hx hb htl i_Ru hown hK hP h_49 rfl 3 (by decide) (htl _ k_72) (fun _ h => h) rfl d_Ru_write_62 ?_
  refine lv_iload_n hx hb d_Ru_write_65 rfl (lv_at hl 0 rfl) ?_
  refine gz_iald hx hb hK hP 0 h_50 rfl (by omega) (by omega) d_Ru_write_66 ?_
  have b_54 := hlw 0
  refine lv_aload_n hx hb d_Ru_write_67 rfl (lv_at hl 1 rfl) ?_
  refine gm_get (C := R_Ru) (T := F_Ru) (n := 5) hx hb htl i_Ru hown hK hP h_49 rfl 4 (by decide) (htl _ k_73) (fun _ h => h) rfl d_Ru_write_68 ?_
  refine lv_iload_n hx hb d_Ru_write_71 rfl (lv_at hl 0 rfl) ?_
  refine gz_iald hx hb hK hP 0 h_51 rfl (by omega) (by omega) d_Ru_write_72 ?_
  have b_55 := hhw 0
  refine gc_S (n := 3) [.ref y, .int (nI (lw 0)), .int (nI (hw 0))] [] hx hb hml hown hts hK hN hX hP hS (c_Ru_writeRange h_53 h_52 (by first | omega | (simp only [List.length_append, List.length_singleton, List.length_nil]; omega)) (by omega) (by omega) c_41) k_466 k_467 k_5 k_468 (by decide +kernel) ⟨by decide, by decide⟩ rfl hl.1 rfl (Nat.le_of_ble_eq_true rfl) d_Ru_write_73 ⟨by decide, by decide⟩ (fun r N1 M_56 H locs hw hP hS => ?_)
  obtain ⟨rfl, hw⟩ := hw
  obtain ⟨gv_57, c_58, rfl⟩ := hw
  have he_59 : gm_up (gm_up (gm_up M y (.inr (4, [.ref q, .int (nI (((([] : List Nat) ++ [(tc 1 ac)]) ++ [(tc 2 dr)]) ++ [(tc 3 po)]).length)]))) q (.inl (ca 1, 40, .inl gv_40))) q (.inl (ca 1, 40, .inl gv_57)) = gm_up (gm_up M y (.inr (4, [.ref q, .int (nI (((([] : List Nat) ++ [(tc 1 ac)]) ++ [(tc 2 dr)]) ++ [(tc 3 po)]).length)]))) q (.inl (ca 1, 40, .inl gv_57)) := gm_up_up _ _ _ _
  have hP := Eq.mp (congrArg (fun Z => gm_P D cls A N (gm_up Z y (.inr (4, [.ref q, .int (nI ((((([] : List Nat) ++ [(tc 1 ac)]) ++ [(tc 2 dr)]) ++ [(tc 3 po)]) ++ rgx (lw 0) (hw 0)).length)]))) H) he_59) hP
  have h_60 := (congrFun he_59 _).symm.trans (gm_pass (k := q) (y := .inl (ca 1, 40, .inl gv_57)) h_49 (gm_ne h_49 h_52 (fun h => by cases h)))
  have h_61 := (congrFun he_59 _).symm.trans (gm_pass (k := q) (y := .inl (ca 1, 40, .inl gv_57)) h_50 (gm_ne h_50 h_52 (fun h => by simp at h)))
  have h_62 := (congrFun he_59 _).symm.trans (gm_pass (k := q) (y := .inl (ca 1, 40, .inl gv_57)) h_51 (gm_ne h_51 h_52 (fun h => by simp at h)))
  have h_63 := (congrFun he_59 _).symm.trans (gm_pass (k := q) (y := .inl (ca 1, 40, .inl gv_57)) h_53 (gm_ne h_53 h_52 (fun h => by cases h)))
  have h_64 := (congrFun he_59 _).symm.trans (gm_up_self (gm_up (gm_up M y (.inr (4, [.ref q, .int (nI (((([] : List Nat) ++ [(tc 1 ac)]) ++ [(tc 2 dr)]) ++ [(tc 3 po)]).length)]))) q (.inl (ca 1, 40, .inl gv_40))) q (.inl (ca 1, 40, .inl gv_57)))
  have he_65 : gm_up (gm_up (gm_up M y (.inr (4, [.ref q, .int (nI (((([] : List Nat) ++ [(tc 1 ac)]) ++ [(tc 2 dr)]) ++ [(tc 3 po)]).length)]))) q (.inl (ca 1, 40, .inl gv_57))) y (.inr (4, [.ref q, .int (nI ((((([] : List Nat) ++ [(tc 1 ac)]) ++ [(tc 2 dr)]) ++ [(tc 3 po)]) ++ rgx (lw 0) (hw 0)).length)])) = gm_up (gm_up M y (.inr (4, [.ref q, .int (nI ((((([] : List Nat) ++ [(tc 1 ac)]) ++ [(tc 2 dr)]) ++ [(tc 3 po)]) ++ rgx (lw 0) (hw 0)).length)]))) q (.inl (ca 1, 40, .inl gv_57)) := (gm_swap (gm_ne h_64 h_63 (fun h => by cases h))).trans (congrArg (fun Z => gm_up Z q (.inl (ca 1, 40, .inl gv_57))) (gm_up_up _ _ _ _))
  have hP := Eq.mp (congrArg (fun Z => gm_P D cls A N (Z) H) he_65) hP
  have hP : gm_P D cls A N (gm_up (gm_up M y (.inr (4, [.ref q, .int (nI ((((([] : List Nat) ++ [(tc 1 ac)]) ++ [(tc 2 dr)]) ++ [(tc 3 po)]) ++ rgx (lw 0) (hw 0)).length)]))) q (.inl (ca 1, 40, .inl gv_57))) H := hP
  have h_66 := (congrFun he_65 _).symm.trans (gm_pass (k := y) (y := .inr (4, [.ref q, .int (nI ((((([] : List Nat) ++ [(tc 1 ac)]) ++ [(tc 2 dr)]) ++ [(tc 3 po)]) ++ rgx (lw 0) (hw 0)).length)])) h_60 (gm_ne h_60 h_63 (fun h => by cases h)))
  have h_67 := (congrFun he_65 _).symm.trans (gm_pass (k := y) (y := .inr (4, [.ref q, .int (nI ((((([] : List Nat) ++ [(tc 1 ac)]) ++ [(tc 2 dr)]) ++ [(tc 3 po)]) ++ rgx (lw 0) (hw 0)).length)])) h_61 (gm_ne h_61 h_63 (fun h => by cases h)))
  have h_68 := (congrFun he_65 _).symm.trans (gm_pass (k := y) (y := .inr (4, [.ref q, .int (nI ((((([] : List Nat) ++ [(tc 1 ac)]) ++ [(tc 2 dr)]) ++ [(tc 3 po)]) ++ rgx (lw 0) (hw 0)).length)])) h_62 (gm_ne h_62 h_63 (fun h => by cases h)))
  have h_69 := (congrFun he_65 _).symm.trans (gm_pass (k := y) (y := .inr (4, [.ref q, .int (nI ((((([] : List Nat) ++ [(tc 1 ac)]) ++ [(tc 2 dr)]) ++ [(tc 3 po)]) ++ rgx (lw 0) (hw 0)).length)])) h_64 (gm_ne h_64 h_63 (fun h => by cases h)))
  have h_70 := (congrFun he_65 _).symm.trans (gm_up_self (gm_up (gm_up M y (.inr (4, [.ref q, .int (nI (((([] : List Nat) ++ [(tc 1 ac)]) ++ [(tc 2 dr)]) ++ [(tc 3 po)]).length)]))) q (.inl (ca 1, 40, .inl gv_57))) y (.inr (4, [.ref q, .int (nI ((((([] : List Nat) ++ [(tc 1 ac)]) ++ [(tc 2 dr)]) ++ [(tc 3 po)]) ++ rgx (lw 0) (hw 0)).length)])))
  refine W.eq (g2 := F0 m 76 ls []) rfl ?_
  refine lv_iinc (v := nI 1) (lv' := [(2, .int (nI 1)), (0, .ref x), (1, .ref y)]) hx hb d_Ru_write_76 hl (k := 0) rfl (by decide) (by decide) rfl (fun ls hl => ?_)
  refine lv_goto (tgt := 45) hx hb d_Ru_write_79 (by decide) ?_
  refine lv_iload_n hx hb d_Ru_write_45 rfl (lv_at hl 0 rfl) ?_
  refine lv_iconst (v := nI 3) hx hb d_Ru_write_46 (by decide) ?_
  refine lv_icmp_ge (tgt := 82) hx hb d_Ru_write_47 (by decide) (fun q => absurd q (by decide)) (fun _ => ?_)
  refine lv_iload_n hx hb d_Ru_write_50 rfl (lv_at hl 0 rfl) ?_
  refine lv_if_le (tgt := 60) hx hb d_Ru_write_51 (by decide) (fun q => absurd q (by decide)) (fun _ => ?_)
  refine lv_aload_n hx hb d_Ru_write_54 rfl (lv_at hl 2 rfl) ?_
  refine lv_bipush (v := nI 44) hx hb d_Ru_write_55 (by decide) ?_
  refine gc_V (q := (R_Li, F_Li, 2)) (n := 1) [.int (nI 44)] [] hx hb hml hown hts hK hN hX hP hS (c_Li_add h_70 h_69 (by first | omega | (simp only [List.length_append, List.length_singleton, List.length_nil]; omega)) (by omega) c_58) rfl h_70 k_463 k_345 k_346 k_2 k_347 (by decide +kernel) ⟨by decide, by decide⟩ rfl hl.1 rfl (Nat.le_of_ble_eq_true rfl) d_Ru_write_57 ⟨by decide, by decide⟩ (fun r N1 M_71 H locs hw hP hS => ?_)
  obtain ⟨rfl, hw⟩ := hw
  obtain ⟨gv_72, c_73, rfl⟩ := hw
  have he_74 : gm_up (gm_up (gm_up M y (.inr (4, [.ref q, .int (nI ((((([] : List Nat) ++ [(tc 1 ac)]) ++ [(tc 2 dr)]) ++ [(tc 3 po)]) ++ rgx (lw 0) (hw 0)).length)]))) q (.inl (ca 1, 40, .inl gv_57))) q (.inl (ca 1, 40, .inl gv_72)) = gm_up (gm_up M y (.inr (4, [.ref q, .int (nI ((((([] : List Nat) ++ [(tc 1 ac)]) ++ [(tc 2 dr)]) ++ [(tc 3 po)]) ++ rgx (lw 0) (hw 0)).length)]))) q (.inl (ca 1, 40, .inl gv_72)) := gm_up_up _ _ _ _
  have hP := Eq.mp (congrArg (fun Z => gm_P D cls A N (gm_up Z y (.inr (4, [.ref q, .int (nI (((((([] : List Nat) ++ [(tc 1 ac)]) ++ [(tc 2 dr)]) ++ [(tc 3 po)]) ++ rgx (lw 0) (hw 0)) ++ [44]).length)]))) H) he_74) hP
  have h_75 := (congrFun he_74 _).symm.trans (gm_pass (k := q) (y := .inl (ca 1, 40, .inl gv_72)) h_66 (gm_ne h_66 h_69 (fun h => by cases h)))
  have h_76 := (congrFun he_74 _).symm.trans (gm_pass (k := q) (y := .inl (ca 1, 40, .inl gv_72)) h_67 (gm_ne h_67 h_69 (fun h => by simp at h)))
  have h_77 := (congrFun he_74 _).symm.trans (gm_pass (k := q) (y := .inl (ca 1, 40, .inl gv_72)) h_68 (gm_ne h_68 h_69 (fun h => by simp at h)))
  have h_78 := (congrFun he_74 _).symm.trans (gm_pass (k := q) (y := .inl (ca 1, 40, .inl gv_72)) h_70 (gm_ne h_70 h_69 (fun h => by cases h)))
  have h_79 := (congrFun he_74 _).symm.trans (gm_up_self (gm_up (gm_up M y (.inr (4, [.ref q, .int (nI ((((([] : List Nat) ++ [(tc 1 ac)]) ++ [(tc 2 dr)]) ++ [(tc 3 po)]) ++ rgx (lw 0) (hw 0)).length)]))) q (.inl (ca 1, 40, .inl gv_57))) q (.inl (ca 1, 40, .inl gv_72)))
  have he_80 : gm_up (gm_up (gm_up M y (.inr (4, [.ref q, .int (nI ((((([] : List Nat) ++ [(tc 1 ac)]) ++ [(tc 2 dr)]) ++ [(tc 3 po)]) ++ rgx (lw 0) (hw 0)).length)]))) q (.inl (ca 1, 40, .inl gv_72))) y (.inr (4, [.ref q, .int (nI (((((([] : List Nat) ++ [(tc 1 ac)]) ++ [(tc 2 dr)]) ++ [(tc 3 po)]) ++ rgx (lw 0) (hw 0)) ++ [44]).length)])) = gm_up (gm_up M y (.inr (4, [.ref q, .int (nI (((((([] : List Nat) ++ [(tc 1 ac)]) ++ [(tc 2 dr)]) ++ [(tc 3 po)]) ++ rgx (lw 0) (hw 0)) ++ [44]).length)]))) q (.inl (ca 1, 40, .inl gv_72)) := (gm_swap (gm_ne h_79 h_78 (fun h => by cases h))).trans (congrArg (fun Z => gm_up Z q (.inl (ca 1, 40, .inl gv_72))) (gm_up_up _ _ _ _))
  have hP := Eq.mp (congrArg (fun Z => gm_P D cls A N (Z) H) he_80) hP
  have hP : gm_P D cls A N (gm_up (gm_up M y (.inr (4, [.ref q, .int (nI (((((([] : List Nat) ++ [(tc 1 ac)]) ++ [(tc 2 dr)]) ++ [(tc 3 po)]) ++ rgx (lw 0) (hw 0)) ++ [44]).length)]))) q (.inl (ca 1, 40, .inl gv_72))) H := hP
  have h_81 := (congrFun he_80 _).symm.trans (gm_pass (k := y) (y := .inr (4, [.ref q, .int (nI (((((([] : List Nat) ++ [(tc 1 ac)]) ++ [(tc 2 dr)]) ++ [(tc 3 po)]) ++ rgx (lw 0) (hw 0)) ++ [44]).length)])) h_75 (gm_ne h_75 h_78 (fun h => by cases h)))
  have h_82 := (congrFun he_80 _).symm.trans (gm_pass (k := y) (y := .inr (4, [.ref q, .int (nI (((((([] : List Nat) ++ [(tc 1 ac)]) ++ [(tc 2 dr)]) ++ [(tc 3 po)]) ++ rgx (lw 0) (hw 0)) ++ [44]).length)])) h_76 (gm_ne h_76 h_78 (fun h => by cases h)))
  have h_83 := (congrFun he_80 _).symm.trans (gm_pass (k := y) (y := .inr (4, [.ref q, .int (nI (((((([] : List Nat) ++ [(tc 1 ac)]) ++ [(tc 2 dr)]) ++ [(tc 3 po)]) ++ rgx (lw 0) (hw 0)) ++ [44]).length)])) h_77 (gm_ne h_77 h_78 (fun h => by cases h)))
  have h_84 := (congrFun he_80 _).symm.trans (gm_pass (k := y) (y := .inr (4, [.ref q, .int (nI (((((([] : List Nat) ++ [(tc 1 ac)]) ++ [(tc 2 dr)]) ++ [(tc 3 po)]) ++ rgx (lw 0) (hw 0)) ++ [44]).length)])) h_79 (gm_ne h_79 h_78 (fun h => by cases h)))
  have h_85 := (congrFun he_80 _).symm.trans (gm_up_self (gm_up (gm_up M y (.inr (4, [.ref q, .int (nI ((((([] : List Nat) ++ [(tc 1 ac)]) ++ [(tc 2 dr)]) ++ [(tc 3 po)]) ++ rgx (lw 0) (hw 0)).length)]))) q (.inl (ca 1, 40, .inl gv_72))) y (.inr (4, [.ref q, .int (nI (((((([] : List Nat) ++ [(tc 1 ac)]) ++ [(tc 2 dr)]) ++ [(tc 3 po)]) ++ rgx (lw 0) (hw 0)) ++ [44]).length)])))
  refine W.eq (g2 := F0 m 60 ls []) rfl ?_
  refine lv_aload_n hx hb d_Ru_write_60 rfl (lv_at hl 2 rfl) ?_
  refine lv_aload_n hx hb d_Ru_write_61 rfl (lv_at hl 1 rfl) ?_
  refine gm_get (C := R_Ru) (T := F_Ru) (n := 5) hx hb htl i_Ru hown hK hP h_81 rfl 3 (by decide) (htl _ k_72) (fun _ h => h) rfl d_Ru_write_62 ?_
  refine lv_iload_n hx hb d_Ru_write_65 rfl (lv_at hl 0 rfl) ?_
  refine gz_iald hx hb hK hP 0 h_82 rfl (by omega) (by omega) d_Ru_write_66 ?_
  have b_86 := hlw 1
  refine lv_aload_n hx hb d_Ru_write_67 rfl (lv_at hl 1 rfl) ?_
  refine gm_get (C := R_Ru) (T := F_Ru) (n := 5) hx hb htl i_Ru hown hK hP h_81 rfl 4 (by decide) (htl _ k_73) (fun _ h => h) rfl d_Ru_write_68 ?_
  refine lv_iload_n hx hb d_Ru_write_71 rfl (lv_at hl 0 rfl) ?_
  refine gz_iald hx hb hK hP 0 h_83 rfl (by omega) (by omega) d_Ru_write_72 ?_
  have b_87 := hhw 1
  refine gc_S (n := 3) [.ref y, .int (nI (lw 1)), .int (nI (hw 1))] [] hx hb hml hown hts hK hN hX hP hS (c_Ru_writeRange h_85 h_84 (by first | omega | (simp only [List.length_append, List.length_singleton, List.length_nil]; omega)) (by omega) (by omega) c_73) k_466 k_467 k_5 k_468 (by decide +kernel) ⟨by decide, by decide⟩ rfl hl.1 rfl (Nat.le_of_ble_eq_true rfl) d_Ru_write_73 ⟨by decide, by decide⟩ (fun r N1 M_88 H locs hw hP hS => ?_)
  obtain ⟨rfl, hw⟩ := hw
  obtain ⟨gv_89, c_90, rfl⟩ := hw
  have he_91 : gm_up (gm_up (gm_up M y (.inr (4, [.ref q, .int (nI (((((([] : List Nat) ++ [(tc 1 ac)]) ++ [(tc 2 dr)]) ++ [(tc 3 po)]) ++ rgx (lw 0) (hw 0)) ++ [44]).length)]))) q (.inl (ca 1, 40, .inl gv_72))) q (.inl (ca 1, 40, .inl gv_89)) = gm_up (gm_up M y (.inr (4, [.ref q, .int (nI (((((([] : List Nat) ++ [(tc 1 ac)]) ++ [(tc 2 dr)]) ++ [(tc 3 po)]) ++ rgx (lw 0) (hw 0)) ++ [44]).length)]))) q (.inl (ca 1, 40, .inl gv_89)) := gm_up_up _ _ _ _
  have hP := Eq.mp (congrArg (fun Z => gm_P D cls A N (gm_up Z y (.inr (4, [.ref q, .int (nI ((((((([] : List Nat) ++ [(tc 1 ac)]) ++ [(tc 2 dr)]) ++ [(tc 3 po)]) ++ rgx (lw 0) (hw 0)) ++ [44]) ++ rgx (lw 1) (hw 1)).length)]))) H) he_91) hP
  have h_92 := (congrFun he_91 _).symm.trans (gm_pass (k := q) (y := .inl (ca 1, 40, .inl gv_89)) h_81 (gm_ne h_81 h_84 (fun h => by cases h)))
  have h_93 := (congrFun he_91 _).symm.trans (gm_pass (k := q) (y := .inl (ca 1, 40, .inl gv_89)) h_82 (gm_ne h_82 h_84 (fun h => by simp at h)))
  have h_94 := (congrFun he_91 _).symm.trans (gm_pass (k := q) (y := .inl (ca 1, 40, .inl gv_89)) h_83 (gm_ne h_83 h_84 (fun h => by simp at h)))
  have h_95 := (congrFun he_91 _).symm.trans (gm_pass (k := q) (y := .inl (ca 1, 40, .inl gv_89)) h_85 (gm_ne h_85 h_84 (fun h => by cases h)))
  have h_96 := (congrFun he_91 _).symm.trans (gm_up_self (gm_up (gm_up M y (.inr (4, [.ref q, .int (nI (((((([] : List Nat) ++ [(tc 1 ac)]) ++ [(tc 2 dr)]) ++ [(tc 3 po)]) ++ rgx (lw 0) (hw 0)) ++ [44]).length)]))) q (.inl (ca 1, 40, .inl gv_72))) q (.inl (ca 1, 40, .inl gv_89)))
  have he_97 : gm_up (gm_up (gm_up M y (.inr (4, [.ref q, .int (nI (((((([] : List Nat) ++ [(tc 1 ac)]) ++ [(tc 2 dr)]) ++ [(tc 3 po)]) ++ rgx (lw 0) (hw 0)) ++ [44]).length)]))) q (.inl (ca 1, 40, .inl gv_89))) y (.inr (4, [.ref q, .int (nI ((((((([] : List Nat) ++ [(tc 1 ac)]) ++ [(tc 2 dr)]) ++ [(tc 3 po)]) ++ rgx (lw 0) (hw 0)) ++ [44]) ++ rgx (lw 1) (hw 1)).length)])) = gm_up (gm_up M y (.inr (4, [.ref q, .int (nI ((((((([] : List Nat) ++ [(tc 1 ac)]) ++ [(tc 2 dr)]) ++ [(tc 3 po)]) ++ rgx (lw 0) (hw 0)) ++ [44]) ++ rgx (lw 1) (hw 1)).length)]))) q (.inl (ca 1, 40, .inl gv_89)) := (gm_swap (gm_ne h_96 h_95 (fun h => by cases h))).trans (congrArg (fun Z => gm_up Z q (.inl (ca 1, 40, .inl gv_89))) (gm_up_up _ _ _ _))
  have hP := Eq.mp (congrArg (fun Z => gm_P D cls A N (Z) H) he_97) hP
  have hP : gm_P D cls A N (gm_up (gm_up M y (.inr (4, [.ref q, .int (nI ((((((([] : List Nat) ++ [(tc 1 ac)]) ++ [(tc 2 dr)]) ++ [(tc 3 po)]) ++ rgx (lw 0) (hw 0)) ++ [44]) ++ rgx (lw 1) (hw 1)).length)]))) q (.inl (ca 1, 40, .inl gv_89))) H := hP
  have h_98 := (congrFun he_97 _).symm.trans (gm_pass (k := y) (y := .inr (4, [.ref q, .int (nI ((((((([] : List Nat) ++ [(tc 1 ac)]) ++ [(tc 2 dr)]) ++ [(tc 3 po)]) ++ rgx (lw 0) (hw 0)) ++ [44]) ++ rgx (lw 1) (hw 1)).length)])) h_92 (gm_ne h_92 h_95 (fun h => by cases h)))
  have h_99 := (congrFun he_97 _).symm.trans (gm_pass (k := y) (y := .inr (4, [.ref q, .int (nI ((((((([] : List Nat) ++ [(tc 1 ac)]) ++ [(tc 2 dr)]) ++ [(tc 3 po)]) ++ rgx (lw 0) (hw 0)) ++ [44]) ++ rgx (lw 1) (hw 1)).length)])) h_93 (gm_ne h_93 h_95 (fun h => by cases h)))
  have h_100 := (congrFun he_97 _).symm.trans (gm_pass (k := y) (y := .inr (4, [.ref q, .int (nI ((((((([] : List Nat) ++ [(tc 1 ac)]) ++ [(tc 2 dr)]) ++ [(tc 3 po)]) ++ rgx (lw 0) (hw 0)) ++ [44]) ++ rgx (lw 1) (hw 1)).length)])) h_94 (gm_ne h_94 h_95 (fun h => by cases h)))
  have h_101 := (congrFun he_97 _).symm.trans (gm_pass (k := y) (y := .inr (4, [.ref q, .int (nI ((((((([] : List Nat) ++ [(tc 1 ac)]) ++ [(tc 2 dr)]) ++ [(tc 3 po)]) ++ rgx (lw 0) (hw 0)) ++ [44]) ++ rgx (lw 1) (hw 1)).length)])) h_96 (gm_ne h_96 h_95 (fun h => by cases h)))
  have h_102 := (congrFun he_97 _).symm.trans (gm_up_self (gm_up (gm_up M y (.inr (4, [.ref q, .int (nI (((((([] : List Nat) ++ [(tc 1 ac)]) ++ [(tc 2 dr)]) ++ [(tc 3 po)]) ++ rgx (lw 0) (hw 0)) ++ [44]).length)]))) q (.inl (ca 1, 40, .inl gv_89))) y (.inr (4, [.ref q, .int (nI ((((((([] : List Nat) ++ [(tc 1 ac)]) ++ [(tc 2 dr)]) ++ [(tc 3 po)]) ++ rgx (lw 0) (hw 0)) ++ [44]) ++ rgx (lw 1) (hw 1)).length)])))
  refine W.eq (g2 := F0 m 76 ls []) rfl ?_
  refine lv_iinc (v := nI 2) (lv' := [(2, .int (nI 2)), (0, .ref x), (1, .ref y)]) hx hb d_Ru_write_76 hl (k := 0) rfl (by decide) (by decide) rfl (fun ls hl => ?_)
  refine lv_goto (tgt := 45) hx hb d_Ru_write_79 (by decide) ?_
  refine lv_iload_n hx hb d_Ru_write_45 rfl (lv_at hl 0 rfl) ?_
  refine lv_iconst (v := nI 3) hx hb d_Ru_write_46 (by decide) ?_
  refine lv_icmp_ge (tgt := 82) hx hb d_Ru_write_47 (by decide) (fun q => absurd q (by decide)) (fun _ => ?_)
  refine lv_iload_n hx hb d_Ru_write_50 rfl (lv_at hl 0 rfl) ?_
  refine lv_if_le (tgt := 60) hx hb d_Ru_write_51 (by decide) (fun q => absurd q (by decide)) (fun _ => ?_)
  refine lv_aload_n hx hb d_Ru_write_54 rfl (lv_at hl 2 rfl) ?_
  refine lv_bipush (v := nI 44) hx hb d_Ru_write_55 (by decide) ?_
  refine gc_V (q := (R_Li, F_Li, 2)) (n := 1) [.int (nI 44)] [] hx hb hml hown hts hK hN hX hP hS (c_Li_add h_102 h_101 (by first | omega | (simp only [List.length_append, List.length_singleton, List.length_nil]; omega)) (by omega) c_90) rfl h_102 k_463 k_345 k_346 k_2 k_347 (by decide +kernel) ⟨by decide, by decide⟩ rfl hl.1 rfl (Nat.le_of_ble_eq_true rfl) d_Ru_write_57 ⟨by decide, by decide⟩ (fun r N1 M_103 H locs hw hP hS => ?_)
  obtain ⟨rfl, hw⟩ := hw
  obtain ⟨gv_104, c_105, rfl⟩ := hw
  have he_106 : gm_up (gm_up (gm_up M y (.inr (4, [.ref q, .int (nI ((((((([] : List Nat) ++ [(tc 1 ac)]) ++ [(tc 2 dr)]) ++ [(tc 3 po)]) ++ rgx (lw 0) (hw 0)) ++ [44]) ++ rgx (lw 1) (hw 1)).length)]))) q (.inl (ca 1, 40, .inl gv_89))) q (.inl (ca 1, 40, .inl gv_104)) = gm_up (gm_up M y (.inr (4, [.ref q, .int (nI ((((((([] : List Nat) ++ [(tc 1 ac)]) ++ [(tc 2 dr)]) ++ [(tc 3 po)]) ++ rgx (lw 0) (hw 0)) ++ [44]) ++ rgx (lw 1) (hw 1)).length)]))) q (.inl (ca 1, 40, .inl gv_104)) := gm_up_up _ _ _ _
  have hP := Eq.mp (congrArg (fun Z => gm_P D cls A N (gm_up Z y (.inr (4, [.ref q, .int (nI (((((((([] : List Nat) ++ [(tc 1 ac)]) ++ [(tc 2 dr)]) ++ [(tc 3 po)]) ++ rgx (lw 0) (hw 0)) ++ [44]) ++ rgx (lw 1) (hw 1)) ++ [44]).length)]))) H) he_106) hP
  have h_107 := (congrFun he_106 _).symm.trans (gm_pass (k := q) (y := .inl (ca 1, 40, .inl gv_104)) h_98 (gm_ne h_98 h_101 (fun h => by cases h)))
  have h_108 := (congrFun he_106 _).symm.trans (gm_pass (k := q) (y := .inl (ca 1, 40, .inl gv_104)) h_99 (gm_ne h_99 h_101 (fun h => by simp at h)))
  have h_109 := (congrFun he_106 _).symm.trans (gm_pass (k := q) (y := .inl (ca 1, 40, .inl gv_104)) h_100 (gm_ne h_100 h_101 (fun h => by simp at h)))
  have h_110 := (congrFun he_106 _).symm.trans (gm_pass (k := q) (y := .inl (ca 1, 40, .inl gv_104)) h_102 (gm_ne h_102 h_101 (fun h => by cases h)))
  have h_111 := (congrFun he_106 _).symm.trans (gm_up_self (gm_up (gm_up M y (.inr (4, [.ref q, .int (nI ((((((([] : List Nat) ++ [(tc 1 ac)]) ++ [(tc 2 dr)]) ++ [(tc 3 po)]) ++ rgx (lw 0) (hw 0)) ++ [44]) ++ rgx (lw 1) (hw 1)).length)]))) q (.inl (ca 1, 40, .inl gv_89))) q (.inl (ca 1, 40, .inl gv_104)))
  have he_112 : gm_up (gm_up (gm_up M y (.inr (4, [.ref q, .int (nI ((((((([] : List Nat) ++ [(tc 1 ac)]) ++ [(tc 2 dr)]) ++ [(tc 3 po)]) ++ rgx (lw 0) (hw 0)) ++ [44]) ++ rgx (lw 1) (hw 1)).length)]))) q (.inl (ca 1, 40, .inl gv_104))) y (.inr (4, [.ref q, .int (nI (((((((([] : List Nat) ++ [(tc 1 ac)]) ++ [(tc 2 dr)]) ++ [(tc 3 po)]) ++ rgx (lw 0) (hw 0)) ++ [44]) ++ rgx (lw 1) (hw 1)) ++ [44]).length)])) = gm_up (gm_up M y (.inr (4, [.ref q, .int (nI (((((((([] : List Nat) ++ [(tc 1 ac)]) ++ [(tc 2 dr)]) ++ [(tc 3 po)]) ++ rgx (lw 0) (hw 0)) ++ [44]) ++ rgx (lw 1) (hw 1)) ++ [44]).length)]))) q (.inl (ca 1, 40, .inl gv_104)) := (gm_swap (gm_ne h_111 h_110 (fun h => by cases h))).trans (congrArg (fun Z => gm_up Z q (.inl (ca 1, 40, .inl gv_104))) (gm_up_up _ _ _ _))
  have hP := Eq.mp (congrArg (fun Z => gm_P D cls A N (Z) H) he_112) hP
  have hP : gm_P D cls A N (gm_up (gm_up M y (.inr (4, [.ref q, .int (nI (((((((([] : List Nat) ++ [(tc 1 ac)]) ++ [(tc 2 dr)]) ++ [(tc 3 po)]) ++ rgx (lw 0) (hw 0)) ++ [44]) ++ rgx (lw 1) (hw 1)) ++ [44]).length)]))) q (.inl (ca 1, 40, .inl gv_104))) H := hP
  have h_113 := (congrFun he_112 _).symm.trans (gm_pass (k := y) (y := .inr (4, [.ref q, .int (nI (((((((([] : List Nat) ++ [(tc 1 ac)]) ++ [(tc 2 dr)]) ++ [(tc 3 po)]) ++ rgx (lw 0) (hw 0)) ++ [44]) ++ rgx (lw 1) (hw 1)) ++ [44]).length)])) h_107 (gm_ne h_107 h_110 (fun h => by cases h)))
  have h_114 := (congrFun he_112 _).symm.trans (gm_pass (k := y) (y := .inr (4, [.ref q, .int (nI (((((((([] : List Nat) ++ [(tc 1 ac)]) ++ [(tc 2 dr)]) ++ [(tc 3 po)]) ++ rgx (lw 0) (hw 0)) ++ [44]) ++ rgx (lw 1) (hw 1)) ++ [44]).length)])) h_108 (gm_ne h_108 h_110 (fun h => by cases h)))
  have h_115 := (congrFun he_112 _).symm.trans (gm_pass (k := y) (y := .inr (4, [.ref q, .int (nI (((((((([] : List Nat) ++ [(tc 1 ac)]) ++ [(tc 2 dr)]) ++ [(tc 3 po)]) ++ rgx (lw 0) (hw 0)) ++ [44]) ++ rgx (lw 1) (hw 1)) ++ [44]).length)])) h_109 (gm_ne h_109 h_110 (fun h => by cases h)))
  have h_116 := (congrFun he_112 _).symm.trans (gm_pass (k := y) (y := .inr (4, [.ref q, .int (nI (((((((([] : List Nat) ++ [(tc 1 ac)]) ++ [(tc 2 dr)]) ++ [(tc 3 po)]) ++ rgx (lw 0) (hw 0)) ++ [44]) ++ rgx (lw 1) (hw 1)) ++ [44]).length)])) h_111 (gm_ne h_111 h_110 (fun h => by cases h)))
  have h_117 := (congrFun he_112 _).symm.trans (gm_up_self (gm_up (gm_up M y (.inr (4, [.ref q, .int (nI ((((((([] : List Nat) ++ [(tc 1 ac)]) ++ [(tc 2 dr)]) ++ [(tc 3 po)]) ++ rgx (lw 0) (hw 0)) ++ [44]) ++ rgx (lw 1) (hw 1)).length)]))) q (.inl (ca 1, 40, .inl gv_104))) y (.inr (4, [.ref q, .int (nI (((((((([] : List Nat) ++ [(tc 1 ac)]) ++ [(tc 2 dr)]) ++ [(tc 3 po)]) ++ rgx (lw 0) (hw 0)) ++ [44]) ++ rgx (lw 1) (hw 1)) ++ [44]).length)])))
  refine W.eq (g2 := F0 m 60 ls []) rfl ?_
  refine lv_aload_n hx hb d_Ru_write_60 rfl (lv_at hl 2 rfl) ?_
  refine lv_aload_n hx hb d_Ru_write_61 rfl (lv_at hl 1 rfl) ?_
  refine gm_get (C := R_Ru) (T := F_Ru) (n := 5) hx hb htl i_Ru hown hK hP h_113 rfl 3 (by decide) (htl _ k_72) (fun _ h => h) rfl d_Ru_write_62 ?_
  refine lv_iload_n hx hb d_Ru_write_65 rfl (lv_at hl 0 rfl) ?_
  refine gz_iald hx hb hK hP 0 h_114 rfl (by omega) (by omega) d_Ru_write_66 ?_
  have b_118 := hlw 2
  refine lv_aload_n hx hb d_Ru_write_67 rfl (lv_at hl 1 rfl) ?_
  refine gm_get (C := R_Ru) (T := F_Ru) (n := 5) hx hb htl i_Ru hown hK hP h_113 rfl 4 (by decide) (htl _ k_73) (fun _ h => h) rfl d_Ru_write_68 ?_
  refine lv_iload_n hx hb d_Ru_write_71 rfl (lv_at hl 0 rfl) ?_
  refine gz_iald hx hb hK hP 0 h_115 rfl (by omega) (by omega) d_Ru_write_72 ?_
  have b_119 := hhw 2
  refine gc_S (n := 3) [.ref y, .int (nI (lw 2)), .int (nI (hw 2))] [] hx hb hml hown hts hK hN hX hP hS (c_Ru_writeRange h_117 h_116 (by first | omega | (simp only [List.length_append, List.length_singleton, List.length_nil]; omega)) (by omega) (by omega) c_105) k_466 k_467 k_5 k_468 (by decide +kernel) ⟨by decide, by decide⟩ rfl hl.1 rfl (Nat.le_of_ble_eq_true rfl) d_Ru_write_73 ⟨by decide, by decide⟩ (fun r N1 M_120 H locs hw hP hS => ?_)
  obtain ⟨rfl, hw⟩ := hw
  obtain ⟨gv_121, c_122, rfl⟩ := hw
  have he_123 : gm_up (gm_up (gm_up M y (.inr (4, [.ref q, .int (nI (((((((([] : List Nat) ++ [(tc 1 ac)]) ++ [(tc 2 dr)]) ++ [(tc 3 po)]) ++ rgx (lw 0) (hw 0)) ++ [44]) ++ rgx (lw 1) (hw 1)) ++ [44]).length)]))) q (.inl (ca 1, 40, .inl gv_104))) q (.inl (ca 1, 40, .inl gv_121)) = gm_up (gm_up M y (.inr (4, [.ref q, .int (nI (((((((([] : List Nat) ++ [(tc 1 ac)]) ++ [(tc 2 dr)]) ++ [(tc 3 po)]) ++ rgx (lw 0) (hw 0)) ++ [44]) ++ rgx (lw 1) (hw 1)) ++ [44]).length)]))) q (.inl (ca 1, 40, .inl gv_121)) := gm_up_up _ _ _ _
  have hP := Eq.mp (congrArg (fun Z => gm_P D cls A N (gm_up Z y (.inr (4, [.ref q, .int (nI ((((((((([] : List Nat) ++ [(tc 1 ac)]) ++ [(tc 2 dr)]) ++ [(tc 3 po)]) ++ rgx (lw 0) (hw 0)) ++ [44]) ++ rgx (lw 1) (hw 1)) ++ [44]) ++ rgx (lw 2) (hw 2)).length)]))) H) he_123) hP
  have h_124 := (congrFun he_123 _).symm.trans (gm_pass (k := q) (y := .inl (ca 1, 40, .inl gv_121)) h_113 (gm_ne h_113 h_116 (fun h => by cases h)))
  have h_125 := (congrFun he_123 _).symm.trans (gm_pass (k := q) (y := .inl (ca 1, 40, .inl gv_121)) h_114 (gm_ne h_114 h_116 (fun h => by simp at h)))
  have h_126 := (congrFun he_123 _).symm.trans (gm_pass (k := q) (y := .inl (ca 1, 40, .inl gv_121)) h_115 (gm_ne h_115 h_116 (fun h => by simp at h)))
  have h_127 := (congrFun he_123 _).symm.trans (gm_pass (k := q) (y := .inl (ca 1, 40, .inl gv_121)) h_117 (gm_ne h_117 h_116 (fun h => by cases h)))
  have h_128 := (congrFun he_123 _).symm.trans (gm_up_self (gm_up (gm_up M y (.inr (4, [.ref q, .int (nI (((((((([] : List Nat) ++ [(tc 1 ac)]) ++ [(tc 2 dr)]) ++ [(tc 3 po)]) ++ rgx (lw 0) (hw 0)) ++ [44]) ++ rgx (lw 1) (hw 1)) ++ [44]).length)]))) q (.inl (ca 1, 40, .inl gv_104))) q (.inl (ca 1, 40, .inl gv_121)))
  have he_129 : gm_up (gm_up (gm_up M y (.inr (4, [.ref q, .int (nI (((((((([] : List Nat) ++ [(tc 1 ac)]) ++ [(tc 2 dr)]) ++ [(tc 3 po)]) ++ rgx (lw 0) (hw 0)) ++ [44]) ++ rgx (lw 1) (hw 1)) ++ [44]).length)]))) q (.inl (ca 1, 40, .inl gv_121))) y (.inr (4, [.ref q, .int (nI ((((((((([] : List Nat) ++ [(tc 1 ac)]) ++ [(tc 2 dr)]) ++ [(tc 3 po)]) ++ rgx (lw 0) (hw 0)) ++ [44]) ++ rgx (lw 1) (hw 1)) ++ [44]) ++ rgx (lw 2) (hw 2)).length)])) = gm_up (gm_up M y (.inr (4, [.ref q, .int (nI ((((((((([] : List Nat) ++ [(tc 1 ac)]) ++ [(tc 2 dr)]) ++ [(tc 3 po)]) ++ rgx (lw 0) (hw 0)) ++ [44]) ++ rgx (lw 1) (hw 1)) ++ [44]) ++ rgx (lw 2) (hw 2)).length)]))) q (.inl (ca 1, 40, .inl gv_121)) := (gm_swap (gm_ne h_128 h_127 (fun h => by cases h))).trans (congrArg (fun Z => gm_up Z q (.inl (ca 1, 40, .inl gv_121))) (gm_up_up _ _ _ _))
  have hP := Eq.mp (congrArg (fun Z => gm_P D cls A N (Z) H) he_129) hP
  have hP : gm_P D cls A N (gm_up (gm_up M y (.inr (4, [.ref q, .int (nI ((((((((([] : List Nat) ++ [(tc 1 ac)]) ++ [(tc 2 dr)]) ++ [(tc 3 po)]) ++ rgx (lw 0) (hw 0)) ++ [44]) ++ rgx (lw 1) (hw 1)) ++ [44]) ++ rgx (lw 2) (hw 2)).length)]))) q (.inl (ca 1, 40, .inl gv_121))) H := hP
  have h_130 := (congrFun he_129 _).symm.trans (gm_pass (k := y) (y := .inr (4, [.ref q, .int (nI ((((((((([] : List Nat) ++ [(tc 1 ac)]) ++ [(tc 2 dr)]) ++ [(tc 3 po)]) ++ rgx (lw 0) (hw 0)) ++ [44]) ++ rgx (lw 1) (hw 1)) ++ [44]) ++ rgx (lw 2) (hw 2)).length)])) h_124 (gm_ne h_124 h_127 (fun h => by cases h)))
  have h_131 := (congrFun he_129 _).symm.trans (gm_pass (k := y) (y := .inr (4, [.ref q, .int (nI ((((((((([] : List Nat) ++ [(tc 1 ac)]) ++ [(tc 2 dr)]) ++ [(tc 3 po)]) ++ rgx (lw 0) (hw 0)) ++ [44]) ++ rgx (lw 1) (hw 1)) ++ [44]) ++ rgx (lw 2) (hw 2)).length)])) h_125 (gm_ne h_125 h_127 (fun h => by cases h)))
  have h_132 := (congrFun he_129 _).symm.trans (gm_pass (k := y) (y := .inr (4, [.ref q, .int (nI ((((((((([] : List Nat) ++ [(tc 1 ac)]) ++ [(tc 2 dr)]) ++ [(tc 3 po)]) ++ rgx (lw 0) (hw 0)) ++ [44]) ++ rgx (lw 1) (hw 1)) ++ [44]) ++ rgx (lw 2) (hw 2)).length)])) h_126 (gm_ne h_126 h_127 (fun h => by cases h)))
  have h_133 := (congrFun he_129 _).symm.trans (gm_pass (k := y) (y := .inr (4, [.ref q, .int (nI ((((((((([] : List Nat) ++ [(tc 1 ac)]) ++ [(tc 2 dr)]) ++ [(tc 3 po)]) ++ rgx (lw 0) (hw 0)) ++ [44]) ++ rgx (lw 1) (hw 1)) ++ [44]) ++ rgx (lw 2) (hw 2)).length)])) h_128 (gm_ne h_128 h_127 (fun h => by cases h)))
  have h_134 := (congrFun he_129 _).symm.trans (gm_up_self (gm_up (gm_up M y (.inr (4, [.ref q, .int (nI (((((((([] : List Nat) ++ [(tc 1 ac)]) ++ [(tc 2 dr)]) ++ [(tc 3 po)]) ++ rgx (lw 0) (hw 0)) ++ [44]) ++ rgx (lw 1) (hw 1)) ++ [44]).length)]))) q (.inl (ca 1, 40, .inl gv_121))) y (.inr (4, [.ref q, .int (nI ((((((((([] : List Nat) ++ [(tc 1 ac)]) ++ [(tc 2 dr)]) ++ [(tc 3 po)]) ++ rgx (lw 0) (hw 0)) ++ [44]) ++ rgx (lw 1) (hw 1)) ++ [44]) ++ rgx (lw 2) (hw 2)).length)])))
  refine W.eq (g2 := F0 m 76 ls []) rfl ?_
  refine lv_iinc (v := nI 3) (lv' := [(2, .int (nI 3)), (0, .ref x), (1, .ref y)]) hx hb d_Ru_write_76 hl (k := 0) rfl (by decide) (by decide) rfl (fun ls hl => ?_)
  refine lv_goto (tgt := 45) hx hb d_Ru_write_79 (by decide) ?_
  refine lv_iload_n hx hb d_Ru_write_45 rfl (lv_at hl 0 rfl) ?_
  refine lv_iconst (v := nI 3) hx hb d_Ru_write_46 (by decide) ?_
  refine lv_icmp_ge (tgt := 82) hx hb d_Ru_write_47 (by decide) (fun _ => ?_) (fun q => absurd q (by decide))
  exact gc_vret hx hb hr hlk hP hS d_Ru_write_82 (by have he : rtx ac dr po lw hw = ((((((((([] : List Nat) ++ [(tc 1 ac)]) ++ [(tc 2 dr)]) ++ [(tc 3 po)]) ++ rgx (lw 0) (hw 0)) ++ [44]) ++ rgx (lw 1) (hw 1)) ++ [44]) ++ rgx (lw 2) (hw 2)) := (by unfold rtx; simp only [List.append_assoc, List.cons_append, List.nil_append]); rw [he]; exact ⟨rfl, _, c_122, rfl⟩)
end C16
