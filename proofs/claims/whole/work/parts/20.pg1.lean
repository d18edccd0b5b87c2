section C20
variable {l : Launch} {D : va_G} {ca : Nat → ClassId} {A : Nat → Prop} {G : gG} {N : Nat} {M : gm_M}

/-- a number that is 0 .. g -/
def inr (x : Int32) (g : Nat) : Prop := ∃ j : Nat, j ≤ g ∧ x = nI j
theorem not_inr {x : Int32} {g : Nat} (hg : g < 2 ^ 31) (h : ¬ (¬ x < 0 ∧ ¬ nI g < x)) : ¬ inr x g := fun ⟨j, hj, e⟩ => h (by subst e; exact ⟨nI_pos (by omega), nI_nlt (by omega) (by omega)⟩)
theorem tc0_256 (k : Nat) (h : k < 22) : tc 0 k < 256 := Nat.lt_trans (tc0_lt k h) (by decide)
set_option maxHeartbeats 4000000 in
set_option maxRecDepth 100000 in
theorem c_Pg_type (y : Int32) {g cu be so ta tm lt nt : Nat} {bp : Int32} {t : List Nat} {f : Nat → Int32} (eg : M g = some (.inr (8, [.ref (g + 1), .ref (g + 3), .ref (g + 4), .ref (g + 57), .ref (g + 59), .ref (g + 63), .ref (g + 81), .ref cu, .ref be, .int (nI so), .int (nI ta), .int (nI tm), .int (nI lt), .int (nI nt), .int bp]))) (el : M (g + 1) = some (.inr (4, [.ref (g + 2), .int (nI t.length)]))) (ec : M (g + 2) = some (.inl (ca 1, 40, .inl f))) (htl : t.length ≤ 40) (htx : txt f t) (hcs : ∀ c ∈ t, c < 256) : gC l D ca A G y_Pg_type (.code y_Pg_type b_Pg_type 2 (some .int)) ({ frames := 5, cells := 0, slots := 0, locals := 111 }) N M [.ref g, .int y] gm_i (fun (r : Int32) (N1 : Nat) (M1 : gm_M) => N = N1 ∧ (((¬ alw y) ∧ M = M1 ∧ (-1) = r) ∨ ((alw y) ∧ (t.length = 40) ∧ M = M1 ∧ (-3) = r) ∨ (∃ (k : Nat) (h : Nat → Int32), (k < 22) ∧ (y = nI (tc 0 k)) ∧ (t.length < 40) ∧ (txt h (t ++ [tc 0 k])) ∧ gm_up (gm_up M (g + 2) (.inl (ca 1, 40, .inl h))) (g + 1) (.inr (4, [.ref (g + 2), .int (nI (t ++ [tc 0 k]).length)])) = M1 ∧ nI (t.length + 1) = r))) := by
  refine gm_body (by decide) (Nat.le_of_ble_eq_true rfl) (fun p e s m below meth c ls hx hb hr hts hown hlk hml hnm hP hK hN hX hS hl => ?_)
  have htl : ∀ w ∈ LW, w.before _ s = true := fun w h => hts w (List.mem_cons_of_mem _ h)
  have hown : s.vm.findClass "PacketGate" = some m.cls := hown
  have hl : lv_has ls 2 [(0, .ref g), (1, .int y)] := hl
  refine lv_iload_n hx hb d_Pg_type_0 rfl (lv_at hl 1 rfl) ?_
  refine gc_S (n := 1) [.int y] [] hx hb hml hown hts hK hN hX hP hS (c_Li_isAllowed y) k_247 k_248 k_2 k_249 (by decide +kernel) ⟨by decide, by decide⟩ rfl hl.1 rfl (Nat.le_of_ble_eq_true rfl) d_Pg_type_1 ⟨by decide, by decide⟩ (fun r N1 M_1 H locs hw hP hS => ?_)
  obtain ⟨rfl, hw⟩ := hw
  rcases hw with ⟨c_2, rfl, rfl⟩ | ⟨c_3, rfl, rfl⟩
  · skip
    refine W.eq (g2 := F0 m 4 ls [.int (nI 1)]) rfl ?_
    obtain ⟨k, hk, rfl⟩ := c_2
    have hkc := tc0_256 k hk
    refine lv_if_ne (tgt := 9) hx hb d_Pg_type_4 (by decide) (fun _ => ?_) (fun q => absurd q (by decide))
    refine lv_aload_n hx hb d_Pg_type_9 rfl (lv_at hl 0 rfl) ?_
    refine gm_get (C := R_Pg) (T := F_Pg) (n := 15) hx hb htl i_Pg hown hK hP eg rfl 0 (by decide) (htl _ k_197) (fun _ h => h) rfl d_Pg_type_10 ?_
    refine gc_V (q := (R_Li, F_Li, 2)) (n := 0) [] [] hx hb hml hown hts hK hN hX hP hS (c_Li_isFull el (by omega)) rfl el k_340 k_341 k_342 k_2 k_343 (by decide +kernel) ⟨by decide, by decide⟩ rfl hl.1 rfl (Nat.le_of_ble_eq_true rfl) d_Pg_type_13 ⟨by decide, by decide⟩ (fun r N1 M_4 H locs hw hP hS => ?_)
    obtain ⟨rfl, hw⟩ := hw
    rcases hw with ⟨c_5, rfl, rfl⟩ | ⟨c_6, rfl, rfl⟩
    · skip
      refine W.eq (g2 := F0 m 16 ls [.int (nI 1)]) rfl ?_
      refine lv_if_eq (tgt := 22) hx hb d_Pg_type_16 (by decide) (fun q => absurd q (by decide)) (fun _ => ?_)
      refine lv_bipush (v := (-3)) hx hb d_Pg_type_19 (by decide) ?_
      exact gc_iret hx hb hr hlk hP hS d_Pg_type_21 ⟨rfl, Or.inr (Or.inl ⟨⟨k, hk, rfl⟩, by assumption, rfl, rfl⟩)⟩
    · skip
      refine W.eq (g2 := F0 m 16 ls [.int (nI 0)]) rfl ?_
      refine lv_if_eq (tgt := 22) hx hb d_Pg_type_16 (by decide) (fun _ => ?_) (fun q => absurd q (by decide))
      refine lv_aload_n hx hb d_Pg_type_22 rfl (lv_at hl 0 rfl) ?_
      refine gm_get (C := R_Pg) (T := F_Pg) (n := 15) hx hb htl i_Pg hown hK hP eg rfl 0 (by decide) (htl _ k_197) (fun _ h => h) rfl d_Pg_type_23 ?_
      refine lv_iload_n hx hb d_Pg_type_26 rfl (lv_at hl 1 rfl) ?_
      refine lv_i2c (v := nI (tc 0 k)) hx hb d_Pg_type_27 (nI_i2c (by omega)) ?_
      refine gc_V (q := (R_Li, F_Li, 2)) (n := 1) [.int (nI (tc 0 k))] [] hx hb hml hown hts hK hN hX hP hS (c_Li_add el ec (by omega) (by omega) htx) rfl el k_344 k_345 k_346 k_2 k_347 (by decide +kernel) ⟨by decide, by decide⟩ rfl hl.1 rfl (Nat.le_of_ble_eq_true rfl) d_Pg_type_28 ⟨by decide, by decide⟩ (fun r N1 M_7 H locs hw hP hS => ?_)
      obtain ⟨rfl, hw⟩ := hw
      obtain ⟨gv_8, c_9, rfl⟩ := hw
      have h_10 := gm_pass (k := (g + 2)) (y := .inl (ca 1, 40, .inl gv_8)) eg (gm_ne eg ec (fun h => by cases h))
      have h_11 := gm_pass (k := (g + 2)) (y := .inl (ca 1, 40, .inl gv_8)) el (gm_ne el ec (fun h => by cases h))
      have h_12 := gm_up_self M (g + 2) (.inl (ca 1, 40, .inl gv_8))
      have hP : gm_P D cls A N (gm_up (gm_up M (g + 2) (.inl (ca 1, 40, .inl gv_8))) (g + 1) (.inr (4, [.ref (g + 2), .int (nI (t ++ [(tc 0 k)]).length)]))) H := hP
      have h_13 := gm_pass (k := (g + 1)) (y := .inr (4, [.ref (g + 2), .int (nI (t ++ [(tc 0 k)]).length)])) h_10 (gm_ne h_10 h_11 (fun h => by cases h))
      have h_14 := gm_pass (k := (g + 1)) (y := .inr (4, [.ref (g + 2), .int (nI (t ++ [(tc 0 k)]).length)])) h_12 (gm_ne h_12 h_11 (fun h => by cases h))
      have h_15 := gm_up_self (gm_up M (g + 2) (.inl (ca 1, 40, .inl gv_8))) (g + 1) (.inr (4, [.ref (g + 2), .int (nI (t ++ [(tc 0 k)]).length)]))
      refine W.eq (g2 := F0 m 31 ls []) rfl ?_
      refine lv_aload_n hx hb d_Pg_type_31 rfl (lv_at hl 0 rfl) ?_
      refine gm_get (C := R_Pg) (T := F_Pg) (n := 15) hx hb htl i_Pg hown hK hP h_13 rfl 0 (by decide) (htl _ k_197) (fun _ h => h) rfl d_Pg_type_32 ?_
      refine gm_get (C := R_Li) (T := F_Li) (n := 2) hx hb htl i_Li hown hK hP h_15 rfl 1 (by decide) (htl _ k_33) (fun _ h => h) rfl d_Pg_type_35 ?_
      exact gc_iret hx hb hr hlk hP hS d_Pg_type_38 ⟨rfl, Or.inr (Or.inr ⟨k, gv_8, hk, rfl, by omega, c_9, rfl, by rw [List.length_append]; rfl⟩)⟩
  · skip
    refine W.eq (g2 := F0 m 4 ls [.int (nI 0)]) rfl ?_
    refine lv_if_ne (tgt := 9) hx hb d_Pg_type_4 (by decide) (fun q => absurd q (by decide)) (fun _ => ?_)
    refine lv_iconst (v := (-1)) hx hb d_Pg_type_7 (by decide) ?_
    exact gc_iret hx hb hr hlk hP hS d_Pg_type_8 ⟨rfl, Or.inl ⟨by assumption, rfl, rfl⟩⟩
set_option maxHeartbeats 4000000 in
set_option maxRecDepth 100000 in
theorem c_Pg_header (x1 x2 x3 x4 : Int32) {g cu be so ta tm lt nt : Nat} {bp : Int32} (eg : M g = some (.inr (8, [.ref (g + 1), .ref (g + 3), .ref (g + 4), .ref (g + 57), .ref (g + 59), .ref (g + 63), .ref (g + 81), .ref cu, .ref be, .int (nI so), .int (nI ta), .int (nI tm), .int (nI lt), .int (nI nt), .int bp]))) : gC l D ca A G y_Pg_header (.code y_Pg_header b_Pg_header 5 (some .int)) ({ frames := 1, cells := 0, slots := 0, locals := 21 }) N M [.ref g, .int x1, .int x2, .int x3, .int x4] gm_i (fun (r : Int32) (N1 : Nat) (M1 : gm_M) => N = N1 ∧ (((¬ (inr x1 255 ∧ inr x2 255 ∧ inr x3 255 ∧ inr x4 255)) ∧ M = M1 ∧ (-1) = r) ∨ (∃ (n1 : Nat) (n2 : Nat) (n3 : Nat) (n4 : Nat), (x1 = nI n1 ∧ n1 ≤ 255) ∧ (x2 = nI n2 ∧ n2 ≤ 255) ∧ (x3 = nI n3 ∧ n3 ≤ 255) ∧ (x4 = nI n4 ∧ n4 ≤ 255) ∧ gm_up M g (.inr (8, [.ref (g + 1), .ref (g + 3), .ref (g + 4), .ref (g + 57), .ref (g + 59), .ref (g + 63), .ref (g + 81), .ref cu, .ref be, .int (nI (n1 * 256 + n2)), .int (nI (n3 * 256 + n4)), .int (nI tm), .int (nI lt), .int (nI nt), .int bp])) = M1 ∧ nI 0 = r))) := by
  refine gm_body (by decide) (Nat.le_of_ble_eq_true rfl) (fun p e s m below meth c ls hx hb hr hts hown hlk hml hnm hP hK hN hX hS hl => ?_)
  have htl : ∀ w ∈ LW, w.before _ s = true := fun w h => hts w (List.mem_cons_of_mem _ h)
  have hown : s.vm.findClass "PacketGate" = some m.cls := hown
  have hl : lv_has ls 5 [(0, .ref g), (1, .int x1), (2, .int x2), (3, .int x3), (4, .int x4)] := hl
  refine lv_iload_n hx hb d_Pg_header_0 rfl (lv_at hl 1 rfl) ?_
  refine lv_sipush (v := nI 255) hx hb d_Pg_header_1 (by decide) ?_
  refine gc_S (n := 2) [.int x1, .int (nI 255)] [] hx hb hml hown hts hK hN hX hP hS (c_Pg_isWithin x1 (nI 255)) k_485 k_251 k_1 k_252 (by decide +kernel) ⟨by decide, by decide⟩ rfl hl.1 rfl (Nat.le_of_ble_eq_true rfl) d_Pg_header_4 ⟨by decide, by decide⟩ (fun r N1 M_1 H locs hw hP hS => ?_)
  obtain ⟨rfl, hw⟩ := hw
  rcases hw with ⟨c_2, rfl, rfl⟩ | ⟨c_3, rfl, rfl⟩
  · skip
    refine W.eq (g2 := F0 m 7 ls [.int (nI 1)]) rfl ?_
    obtain ⟨x1n, hx1n, rfl⟩ := in_lift (by decide) c_2
    refine lv_if_eq (tgt := 41) hx hb d_Pg_header_7 (by decide) (fun q => absurd q (by decide)) (fun _ => ?_)
    refine lv_iload_n hx hb d_Pg_header_10 rfl (lv_at hl 2 rfl) ?_
    refine lv_sipush (v := nI 255) hx hb d_Pg_header_11 (by decide) ?_
    refine gc_S (n := 2) [.int x2, .int (nI 255)] [] hx hb hml hown hts hK hN hX hP hS (c_Pg_isWithin x2 (nI 255)) k_485 k_251 k_1 k_252 (by decide +kernel) ⟨by decide, by decide⟩ rfl hl.1 rfl (Nat.le_of_ble_eq_true rfl) d_Pg_header_14 ⟨by decide, by decide⟩ (fun r N1 M_4 H locs hw hP hS => ?_)
    obtain ⟨rfl, hw⟩ := hw
    rcases hw with ⟨c_5, rfl, rfl⟩ | ⟨c_6, rfl, rfl⟩
    · skip
      refine W.eq (g2 := F0 m 17 ls [.int (nI 1)]) rfl ?_
      obtain ⟨x2n, hx2n, rfl⟩ := in_lift (by decide) c_5
      refine lv_if_eq (tgt := 41) hx hb d_Pg_header_17 (by decide) (fun q => absurd q (by decide)) (fun _ => ?_)
      refine lv_iload_n hx hb d_Pg_header_20 rfl (lv_at hl 3 rfl) ?_
      refine lv_sipush (v := nI 255) hx hb d_Pg_header_21 (by decide) ?_
      refine gc_S (n := 2) [.int x3, .int (nI 255)] [] hx hb hml hown hts hK hN hX hP hS (c_Pg_isWithin x3 (nI 255)) k_485 k_251 k_1 k_252 (by decide +kernel) ⟨by decide, by decide⟩ rfl hl.1 rfl (Nat.le_of_ble_eq_true rfl) d_Pg_header_24 ⟨by decide, by decide⟩ (fun r N1 M_7 H locs hw hP hS => ?_)
      obtain ⟨rfl, hw⟩ := hw
      rcases hw with ⟨c_8, rfl, rfl⟩ | ⟨c_9, rfl, rfl⟩
      · skip
        refine W.eq (g2 := F0 m 27 ls [.int (nI 1)]) rfl ?_
        obtain ⟨x3n, hx3n, rfl⟩ := in_lift (by decide) c_8
        refine lv_if_eq (tgt := 41) hx hb d_Pg_header_27 (by decide) (fun q => absurd q (by decide)) (fun _ => ?_)
        refine lv_iload hx hb d_Pg_header_30 (lv_at hl 4 rfl) ?_
        refine lv_sipush (v := nI 255) hx hb d_Pg_header_32 (by decide) ?_
        refine gc_S (n := 2) [.int x4, .int (nI 255)] [] hx hb hml hown hts hK hN hX hP hS (c_Pg_isWithin x4 (nI 255)) k_485 k_251 k_1 k_252 (by decide +kernel) ⟨by decide, by decide⟩ rfl hl.1 rfl (Nat.le_of_ble_eq_true rfl) d_Pg_header_35 ⟨by decide, by decide⟩ (fun r N1 M_10 H locs hw hP hS => ?_)
        obtain ⟨rfl, hw⟩ := hw
        rcases hw with ⟨c_11, rfl, rfl⟩ | ⟨c_12, rfl, rfl⟩
        · skip
          refine W.eq (g2 := F0 m 38 ls [.int (nI 1)]) rfl ?_
          obtain ⟨x4n, hx4n, rfl⟩ := in_lift (by decide) c_11
          refine lv_if_ne (tgt := 43) hx hb d_Pg_header_38 (by decide) (fun _ => ?_) (fun q => absurd q (by decide))
          refine lv_aload_n hx hb d_Pg_header_43 rfl (lv_at hl 0 rfl) ?_
          refine lv_iload_n hx hb d_Pg_header_44 rfl (lv_at hl 1 rfl) ?_
          refine lv_iload_n hx hb d_Pg_header_45 rfl (lv_at hl 2 rfl) ?_
          refine gc_S (n := 2) [.int (nI x1n), .int (nI x2n)] [.ref g] hx hb hml hown hts hK hN hX hP hS (c_Pg_endpoint x1n x2n) k_486 k_487 k_1 k_488 (by decide +kernel) ⟨by decide, by decide⟩ rfl hl.1 rfl (Nat.le_of_ble_eq_true rfl) d_Pg_header_46 ⟨by decide, by decide⟩ (fun r N1 M_13 H locs hw hP hS => ?_)
          obtain ⟨rfl, hw⟩ := hw
          obtain ⟨rfl, rfl⟩ := hw
          refine W.eq (g2 := F0 m 49 ls [.int (nI (x1n * 256 + x2n)), .ref g]) rfl ?_
          refine gm_put (C := R_Pg) (T := F_Pg) (n := 15) (ty := .int) hx hb htl i_Pg t_Pg tk_Pg n_Pg hown hK hP hS eg rfl 9 (by decide) (htl _ k_206) (fun _ h => h) rfl (tk_Pg 9 (by decide)) rfl rfl (Nat.le_of_ble_eq_true rfl) d_Pg_header_49 (fun H locs hP hS => ?_)
          have hP : gm_P D cls A N (gm_up M g (.inr (8, [.ref (g + 1), .ref (g + 3), .ref (g + 4), .ref (g + 57), .ref (g + 59), .ref (g + 63), .ref (g + 81), .ref cu, .ref be, .int (nI (x1n * 256 + x2n)), .int (nI ta), .int (nI tm), .int (nI lt), .int (nI nt), .int bp]))) H := hP
          have h_14 := gm_up_self M g (.inr (8, [.ref (g + 1), .ref (g + 3), .ref (g + 4), .ref (g + 57), .ref (g + 59), .ref (g + 63), .ref (g + 81), .ref cu, .ref be, .int (nI (x1n * 256 + x2n)), .int (nI ta), .int (nI tm), .int (nI lt), .int (nI nt), .int bp]))
          refine lv_aload_n hx hb d_Pg_header_52 rfl (lv_at hl 0 rfl) ?_
          refine lv_iload_n hx hb d_Pg_header_53 rfl (lv_at hl 3 rfl) ?_
          refine lv_iload hx hb d_Pg_header_54 (lv_at hl 4 rfl) ?_
          refine gc_S (n := 2) [.int (nI x3n), .int (nI x4n)] [.ref g] hx hb hml hown hts hK hN hX hP hS (c_Pg_endpoint x3n x4n) k_486 k_487 k_1 k_488 (by decide +kernel) ⟨by decide, by decide⟩ rfl hl.1 rfl (Nat.le_of_ble_eq_true rfl) d_Pg_header_56 ⟨by decide, by decide⟩ (fun r N1 M_15 H locs hw hP hS => ?_)
          obtain ⟨rfl, hw⟩ := hw
          obtain ⟨rfl, rfl⟩ := hw
          refine W.eq (g2 := F0 m 59 ls [.int (nI (x3n * 256 + x4n)), .ref g]) rfl ?_
          refine gm_put (C := R_Pg) (T := F_Pg) (n := 15) (ty := .int) hx hb htl i_Pg t_Pg tk_Pg n_Pg hown hK hP hS h_14 rfl 10 (by decide) (htl _ k_207) (fun _ h => h) rfl (tk_Pg 10 (by decide)) rfl rfl (Nat.le_of_ble_eq_true rfl) d_Pg_header_59 (fun H locs hP hS => ?_)
          have he_16 : gm_up (gm_up M g (.inr (8, [.ref (g + 1), .ref (g + 3), .ref (g + 4), .ref (g + 57), .ref (g + 59), .ref (g + 63), .ref (g + 81), .ref cu, .ref be, .int (nI (x1n * 256 + x2n)), .int (nI ta), .int (nI tm), .int (nI lt), .int (nI nt), .int bp]))) g (.inr (8, [.ref (g + 1), .ref (g + 3), .ref (g + 4), .ref (g + 57), .ref (g + 59), .ref (g + 63), .ref (g + 81), .ref cu, .ref be, .int (nI (x1n * 256 + x2n)), .int (nI (x3n * 256 + x4n)), .int (nI tm), .int (nI lt), .int (nI nt), .int bp])) = gm_up M g (.inr (8, [.ref (g + 1), .ref (g + 3), .ref (g + 4), .ref (g + 57), .ref (g + 59), .ref (g + 63), .ref (g + 81), .ref cu, .ref be, .int (nI (x1n * 256 + x2n)), .int (nI (x3n * 256 + x4n)), .int (nI tm), .int (nI lt), .int (nI nt), .int bp])) := gm_up_up _ _ _ _
          have hP := Eq.mp (congrArg (fun Z => gm_P D cls A N Z H) he_16) hP
          have h_17 := (congrFun he_16 _).symm.trans (gm_up_self (gm_up M g (.inr (8, [.ref (g + 1), .ref (g + 3), .ref (g + 4), .ref (g + 57), .ref (g + 59), .ref (g + 63), .ref (g + 81), .ref cu, .ref be, .int (nI (x1n * 256 + x2n)), .int (nI ta), .int (nI tm), .int (nI lt), .int (nI nt), .int bp]))) g (.inr (8, [.ref (g + 1), .ref (g + 3), .ref (g + 4), .ref (g + 57), .ref (g + 59), .ref (g + 63), .ref (g + 81), .ref cu, .ref be, .int (nI (x1n * 256 + x2n)), .int (nI (x3n * 256 + x4n)), .int (nI tm), .int (nI lt), .int (nI nt), .int bp])))
          refine lv_iconst (v := nI 0) hx hb d_Pg_header_62 (by decide) ?_
          exact gc_iret hx hb hr hlk hP hS d_Pg_header_63 (by first | exact ⟨rfl, Or.inl ⟨(by first | exact fun h => not_inr (by decide) (by assumption) h.1 | exact fun h => not_inr (by decide) (by assumption) h.2.1 | exact fun h => not_inr (by decide) (by assumption) h.2.2.1 | exact fun h => not_inr (by decide) (by assumption) h.2.2.2), rfl, rfl⟩⟩ | exact ⟨rfl, Or.inr ⟨x1n, x2n, x3n, x4n, (by exact ⟨rfl, by assumption⟩), (by exact ⟨rfl, by assumption⟩), (by exact ⟨rfl, by assumption⟩), (by exact ⟨rfl, by assumption⟩), rfl, rfl⟩⟩)
        · skip
          refine W.eq (g2 := F0 m 38 ls [.int (nI 0)]) rfl ?_
          refine lv_if_ne (tgt := 43) hx hb d_Pg_header_38 (by decide) (fun q => absurd q (by decide)) (fun _ => ?_)
          refine lv_iconst (v := (-1)) hx hb d_Pg_header_41 (by decide) ?_
          exact gc_iret hx hb hr hlk hP hS d_Pg_header_42 (by first | exact ⟨rfl, Or.inl ⟨(by first | exact fun h => not_inr (by decide) (by assumption) h.1 | exact fun h => not_inr (by decide) (by assumption) h.2.1 | exact fun h => not_inr (by decide) (by assumption) h.2.2.1 | exact fun h => not_inr (by decide) (by assumption) h.2.2.2), rfl, rfl⟩⟩ | exact ⟨rfl, Or.inr ⟨x1n, x2n, x3n, x4n, (by exact ⟨rfl, by assumption⟩), (by exact ⟨rfl, by assumption⟩), (by exact ⟨rfl, by assumption⟩), (by exact ⟨rfl, by assumption⟩), rfl, rfl⟩⟩)
      · skip
        refine W.eq (g2 := F0 m 27 ls [.int (nI 0)]) rfl ?_
        refine lv_if_eq (tgt := 41) hx hb d_Pg_header_27 (by decide) (fun _ => ?_) (fun q => absurd q (by decide))
        refine lv_iconst (v := (-1)) hx hb d_Pg_header_41 (by decide) ?_
        exact gc_iret hx hb hr hlk hP hS d_Pg_header_42 (by first | exact ⟨rfl, Or.inl ⟨(by first | exact fun h => not_inr (by decide) (by assumption) h.1 | exact fun h => not_inr (by decide) (by assumption) h.2.1 | exact fun h => not_inr (by decide) (by assumption) h.2.2.1 | exact fun h => not_inr (by decide) (by assumption) h.2.2.2), rfl, rfl⟩⟩ | exact ⟨rfl, Or.inr ⟨x1n, x2n, x3n, x4n, (by exact ⟨rfl, by assumption⟩), (by exact ⟨rfl, by assumption⟩), (by exact ⟨rfl, by assumption⟩), (by exact ⟨rfl, by assumption⟩), rfl, rfl⟩⟩)
    · skip
      refine W.eq (g2 := F0 m 17 ls [.int (nI 0)]) rfl ?_
      refine lv_if_eq (tgt := 41) hx hb d_Pg_header_17 (by decide) (fun _ => ?_) (fun q => absurd q (by decide))
      refine lv_iconst (v := (-1)) hx hb d_Pg_header_41 (by decide) ?_
      exact gc_iret hx hb hr hlk hP hS d_Pg_header_42 (by first | exact ⟨rfl, Or.inl ⟨(by first | exact fun h => not_inr (by decide) (by assumption) h.1 | exact fun h => not_inr (by decide) (by assumption) h.2.1 | exact fun h => not_inr (by decide) (by assumption) h.2.2.1 | exact fun h => not_inr (by decide) (by assumption) h.2.2.2), rfl, rfl⟩⟩ | exact ⟨rfl, Or.inr ⟨x1n, x2n, x3n, x4n, (by exact ⟨rfl, by assumption⟩), (by exact ⟨rfl, by assumption⟩), (by exact ⟨rfl, by assumption⟩), (by exact ⟨rfl, by assumption⟩), rfl, rfl⟩⟩)
  · skip
    refine W.eq (g2 := F0 m 7 ls [.int (nI 0)]) rfl ?_
    refine lv_if_eq (tgt := 41) hx hb d_Pg_header_7 (by decide) (fun _ => ?_) (fun q => absurd q (by decide))
    refine lv_iconst (v := (-1)) hx hb d_Pg_header_41 (by decide) ?_
    exact gc_iret hx hb hr hlk hP hS d_Pg_header_42 (by first | exact ⟨rfl, Or.inl ⟨(by first | exact fun h => not_inr (by decide) (by assumption) h.1 | exact fun h => not_inr (by decide) (by assumption) h.2.1 | exact fun h => not_inr (by decide) (by assumption) h.2.2.1 | exact fun h => not_inr (by decide) (by assumption) h.2.2.2), rfl, rfl⟩⟩ | exact ⟨rfl, Or.inr ⟨x1n, x2n, x3n, x4n, (by exact ⟨rfl, by assumption⟩), (by exact ⟨rfl, by assumption⟩), (by exact ⟨rfl, by assumption⟩), (by exact ⟨rfl, by assumption⟩), rfl, rfl⟩⟩)
set_option maxHeartbeats 4000000 in
set_option maxRecDepth 100000 in
theorem c_Pg_counted_p {g cu be so ta tm lt nt : Nat} {bp : Int32} {k : Nat} (eg : M g = some (.inr (8, [.ref (g + 1), .ref (g + 3), .ref (g + 4), .ref (g + 57), .ref (g + 59), .ref (g + 63), .ref (g + 81), .ref cu, .ref be, .int (nI so), .int (nI ta), .int (nI tm), .int (nI lt), .int (nI nt), .int bp]))) (hlt0 : lt < 600000) (hnt0 : nt < 600000) (hk : k < 65536) : gC l D ca A G y_Pg_counted (.code y_Pg_counted b_Pg_counted 2 (some .int)) ({ frames := 0, cells := 0, slots := 0, locals := 0 }) N M [.ref g, .int (nI k)] gm_i (fun (r : Int32) (N1 : Nat) (M1 : gm_M) => N = N1 ∧ gm_up M g (.inr (8, [.ref (g + 1), .ref (g + 3), .ref (g + 4), .ref (g + 57), .ref (g + 59), .ref (g + 63), .ref (g + 81), .ref cu, .ref be, .int (nI so), .int (nI ta), .int (nI tm), .int (nI (lt + 1)), .int (nI nt), .int bp])) = M1 ∧ nI k = r) := by
  refine gm_body (by decide) (Nat.le_of_ble_eq_true rfl) (fun p e s m below meth c ls hx hb hr hts hown hlk hml hnm hP hK hN hX hS hl => ?_)
  have htl : ∀ w ∈ LW, w.before _ s = true := fun w h => hts w (List.mem_cons_of_mem _ h)
  have hown : s.vm.findClass "PacketGate" = some m.cls := hown
  have hl : lv_has ls 2 [(0, .ref g), (1, .int (nI k))] := hl
  refine lv_iload_n hx hb d_Pg_counted_0 rfl (lv_at hl 1 rfl) ?_
  refine lz_lt (tgt := 17) hx hb d_Pg_counted_1 (by decide) (by omega) ?_
  refine lv_aload_n hx hb d_Pg_counted_4 rfl (lv_at hl 0 rfl) ?_
  refine lv_dup hx hb d_Pg_counted_5 rfl ?_
  refine gm_get (C := R_Pg) (T := F_Pg) (n := 15) hx hb htl i_Pg hown hK hP eg rfl 12 (by decide) (htl _ k_209) (fun _ h => h) rfl d_Pg_counted_6 ?_
  refine lv_iconst (v := nI 1) hx hb d_Pg_counted_9 (by decide) ?_
  refine lv_iadd hx hb d_Pg_counted_10 ?_
  rw [show (nI lt) + (nI 1) = nI (lt + 1) from nI_add _ _]
  refine gm_put (C := R_Pg) (T := F_Pg) (n := 15) (ty := .int) hx hb htl i_Pg t_Pg tk_Pg n_Pg hown hK hP hS eg rfl 12 (by decide) (htl _ k_209) (fun _ h => h) rfl (tk_Pg 12 (by decide)) rfl rfl (Nat.le_of_ble_eq_true rfl) d_Pg_counted_11 (fun H locs hP hS => ?_)
  have hP : gm_P D cls A N (gm_up M g (.inr (8, [.ref (g + 1), .ref (g + 3), .ref (g + 4), .ref (g + 57), .ref (g + 59), .ref (g + 63), .ref (g + 81), .ref cu, .ref be, .int (nI so), .int (nI ta), .int (nI tm), .int (nI (lt + 1)), .int (nI nt), .int bp]))) H := hP
  have h_2 := gm_up_self M g (.inr (8, [.ref (g + 1), .ref (g + 3), .ref (g + 4), .ref (g + 57), .ref (g + 59), .ref (g + 63), .ref (g + 81), .ref cu, .ref be, .int (nI so), .int (nI ta), .int (nI tm), .int (nI (lt + 1)), .int (nI nt), .int bp]))
  refine lv_goto (tgt := 27) hx hb d_Pg_counted_14 (by decide) ?_
  refine lv_iload_n hx hb d_Pg_counted_27 rfl (lv_at hl 1 rfl) ?_
  exact gc_iret hx hb hr hlk hP hS d_Pg_counted_28 ⟨rfl, rfl, rfl⟩
set_option maxHeartbeats 4000000 in
set_option maxRecDepth 100000 in
theorem c_Pg_counted_n (y : Int32) {g cu be so ta tm lt nt : Nat} {bp : Int32} (eg : M g = some (.inr (8, [.ref (g + 1), .ref (g + 3), .ref (g + 4), .ref (g + 57), .ref (g + 59), .ref (g + 63), .ref (g + 81), .ref cu, .ref be, .int (nI so), .int (nI ta), .int (nI tm), .int (nI lt), .int (nI nt), .int bp]))) (hlt0 : lt < 600000) (hnt0 : nt < 600000) (hk : y < 0) : gC l D ca A G y_Pg_counted (.code y_Pg_counted b_Pg_counted 2 (some .int)) ({ frames := 0, cells := 0, slots := 0, locals := 0 }) N M [.ref g, .int y] gm_i (fun (r : Int32) (N1 : Nat) (M1 : gm_M) => N = N1 ∧ gm_up M g (.inr (8, [.ref (g + 1), .ref (g + 3), .ref (g + 4), .ref (g + 57), .ref (g + 59), .ref (g + 63), .ref (g + 81), .ref cu, .ref be, .int (nI so), .int (nI ta), .int (nI tm), .int (nI lt), .int (nI (nt + 1)), .int bp])) = M1 ∧ y = r) := by
  refine gm_body (by decide) (Nat.le_of_ble_eq_true rfl) (fun p e s m below meth c ls hx hb hr hts hown hlk hml hnm hP hK hN hX hS hl => ?_)
  have htl : ∀ w ∈ LW, w.before _ s = true := fun w h => hts w (List.mem_cons_of_mem _ h)
  have hown : s.vm.findClass "PacketGate" = some m.cls := hown
  have hl : lv_has ls 2 [(0, .ref g), (1, .int y)] := hl
  refine lv_iload_n hx hb d_Pg_counted_0 rfl (lv_at hl 1 rfl) ?_
  refine lv_if_lt (tgt := 17) hx hb d_Pg_counted_1 (by decide) (fun c_1 => ?_) (fun c_1 => ?_)
  · skip
    refine lv_aload_n hx hb d_Pg_counted_17 rfl (lv_at hl 0 rfl) ?_
    refine lv_dup hx hb d_Pg_counted_18 rfl ?_
    refine gm_get (C := R_Pg) (T := F_Pg) (n := 15) hx hb htl i_Pg hown hK hP eg rfl 13 (by decide) (htl _ k_210) (fun _ h => h) rfl d_Pg_counted_19 ?_
    refine lv_iconst (v := nI 1) hx hb d_Pg_counted_22 (by decide) ?_
    refine lv_iadd hx hb d_Pg_counted_23 ?_
    rw [show (nI nt) + (nI 1) = nI (nt + 1) from nI_add _ _]
    refine gm_put (C := R_Pg) (T := F_Pg) (n := 15) (ty := .int) hx hb htl i_Pg t_Pg tk_Pg n_Pg hown hK hP hS eg rfl 13 (by decide) (htl _ k_210) (fun _ h => h) rfl (tk_Pg 13 (by decide)) rfl rfl (Nat.le_of_ble_eq_true rfl) d_Pg_counted_24 (fun H locs hP hS => ?_)
    have hP : gm_P D cls A N (gm_up M g (.inr (8, [.ref (g + 1), .ref (g + 3), .ref (g + 4), .ref (g + 57), .ref (g + 59), .ref (g + 63), .ref (g + 81), .ref cu, .ref be, .int (nI so), .int (nI ta), .int (nI tm), .int (nI lt), .int (nI (nt + 1)), .int bp]))) H := hP
    have h_2 := gm_up_self M g (.inr (8, [.ref (g + 1), .ref (g + 3), .ref (g + 4), .ref (g + 57), .ref (g + 59), .ref (g + 63), .ref (g + 81), .ref cu, .ref be, .int (nI so), .int (nI ta), .int (nI tm), .int (nI lt), .int (nI (nt + 1)), .int bp]))
    refine lv_iload_n hx hb d_Pg_counted_27 rfl (lv_at hl 1 rfl) ?_
    exact gc_iret hx hb hr hlk hP hS d_Pg_counted_28 ⟨rfl, rfl, rfl⟩
  · exact absurd hk c_1
set_option maxHeartbeats 4000000 in
set_option maxRecDepth 100000 in
theorem c_Pg_emit {g cu be so ta tm lt nt : Nat} {bp : Int32} {em : Nat → Nat} {q1 q2 q3 q4 : Nat} (eg : M g = some (.inr (8, [.ref (g + 1), .ref (g + 3), .ref (g + 4), .ref (g + 57), .ref (g + 59), .ref (g + 63), .ref (g + 81), .ref cu, .ref be, .int (nI so), .int (nI ta), .int (nI tm), .int (nI lt), .int (nI nt), .int bp]))) (eem : M (g + 81) = some (.inl (ca 0, 4, .inl (iN em)))) : gC l D ca A G y_Pg_emit (.code y_Pg_emit b_Pg_emit 5 none) ({ frames := 0, cells := 0, slots := 0, locals := 0 }) N M [.ref g, .int (nI q1), .int (nI q2), .int (nI q3), .int (nI q4)] gm_v (fun (_ : Unit) (N1 : Nat) (M1 : gm_M) => N = N1 ∧ gm_up M (g + 81) (.inl (ca 0, 4, .inl (iN (va_up (va_up (va_up (va_up em 0 q1) 1 q2) 2 q3) 3 q4)))) = M1) := by
  refine gm_body (by decide) (Nat.le_of_ble_eq_true rfl) (fun p e s m below meth c ls hx hb hr hts hown hlk hml hnm hP hK hN hX hS hl => ?_)
  have htl : ∀ w ∈ LW, w.before _ s = true := fun w h => hts w (List.mem_cons_of_mem _ h)
  have hown : s.vm.findClass "PacketGate" = some m.cls := hown
  have hl : lv_has ls 5 [(0, .ref g), (1, .int (nI q1)), (2, .int (nI q2)), (3, .int (nI q3)), (4, .int (nI q4))] := hl
  refine lv_aload_n hx hb d_Pg_emit_0 rfl (lv_at hl 0 rfl) ?_
  refine gm_get (C := R_Pg) (T := F_Pg) (n := 15) hx hb htl i_Pg hown hK hP eg rfl 6 (by decide) (htl _ k_203) (fun _ h => h) rfl d_Pg_emit_1 ?_
  refine lv_iconst (v := nI 0) hx hb d_Pg_emit_4 (by decide) ?_
  refine lv_iload_n hx hb d_Pg_emit_5 rfl (lv_at hl 1 rfl) ?_
  refine gz_iast hx hb hK hP hS 0 eem rfl (by omega) (by omega) d_Pg_emit_6 (fun H locs hP hS => ?_)
  have hP : gm_P D cls A N (gm_up M (g + 81) (.inl (ca 0, 4, .inl (iN (va_up em 0 q1))))) H := hP
  have h_1 := gm_pass (k := (g + 81)) (y := .inl (ca 0, 4, .inl (iN (va_up em 0 q1)))) eg (gm_ne eg eem (fun h => by cases h))
  have h_2 := gm_up_self M (g + 81) (.inl (ca 0, 4, .inl (iN (va_up em 0 q1))))
  refine lv_aload_n hx hb d_Pg_emit_7 rfl (lv_at hl 0 rfl) ?_
  refine gm_get (C := R_Pg) (T := F_Pg) (n := 15) hx hb htl i_Pg hown hK hP h_1 rfl 6 (by decide) (htl _ k_203) (fun _ h => h) rfl d_Pg_emit_8 ?_
  refine lv_iconst (v := nI 1) hx hb d_Pg_emit_11 (by decide) ?_
  refine lv_iload_n hx hb d_Pg_emit_12 rfl (lv_at hl 2 rfl) ?_
  refine gz_iast hx hb hK hP hS 0 h_2 rfl (by omega) (by omega) d_Pg_emit_13 (fun H locs hP hS => ?_)
  have he_3 : gm_up (gm_up M (g + 81) (.inl (ca 0, 4, .inl (iN (va_up em 0 q1))))) (g + 81) (.inl (ca 0, 4, .inl (iN (va_up (va_up em 0 q1) 1 q2)))) = gm_up M (g + 81) (.inl (ca 0, 4, .inl (iN (va_up (va_up em 0 q1) 1 q2)))) := gm_up_up _ _ _ _
  have hP := Eq.mp (congrArg (fun Z => gm_P D cls A N Z H) he_3) hP
  have h_4 := (congrFun he_3 _).symm.trans (gm_pass (k := (g + 81)) (y := .inl (ca 0, 4, .inl (iN (va_up (va_up em 0 q1) 1 q2)))) h_1 (gm_ne h_1 h_2 (fun h => by cases h)))
  have h_5 := (congrFun he_3 _).symm.trans (gm_up_self (gm_up M (g + 81) (.inl (ca 0, 4, .inl (iN (va_up em 0 q1))))) (g + 81) (.inl (ca 0, 4, .inl (iN (va_up (va_up em 0 q1) 1 q2)))))
  refine lv_aload_n hx hb d_Pg_emit_14 rfl (lv_at hl 0 rfl) ?_
  refine gm_get (C := R_Pg) (T := F_Pg) (n := 15) hx hb htl i_Pg hown hK hP h_4 rfl 6 (by decide) (htl _ k_203) (fun _ h => h) rfl d_Pg_emit_15 ?_
  refine lv_iconst (v := nI 2) hx hb d_Pg_emit_18 (by decide) ?_
  refine lv_iload_n hx hb d_Pg_emit_19 rfl (lv_at hl 3 rfl) ?_
  refine gz_iast hx hb hK hP hS 0 h_5 rfl (by omega) (by omega) d_Pg_emit_20 (fun H locs hP hS => ?_)
  have he_6 : gm_up (gm_up M (g + 81) (.inl (ca 0, 4, .inl (iN (va_up (va_up em 0 q1) 1 q2))))) (g + 81) (.inl (ca 0, 4, .inl (iN (va_up (va_up (va_up em 0 q1) 1 q2) 2 q3)))) = gm_up M (g + 81) (.inl (ca 0, 4, .inl (iN (va_up (va_up (va_up em 0 q1) 1 q2) 2 q3)))) := gm_up_up _ _ _ _
  have hP := Eq.mp (congrArg (fun Z => gm_P D cls A N Z H) he_6) hP
  have h_7 := (congrFun he_6 _).symm.trans (gm_pass (k := (g + 81)) (y := .inl (ca 0, 4, .inl (iN (va_up (va_up (va_up em 0 q1) 1 q2) 2 q3)))) h_4 (gm_ne h_4 h_5 (fun h => by cases h)))
  have h_8 := (congrFun he_6 _).symm.trans (gm_up_self (gm_up M (g + 81) (.inl (ca 0, 4, .inl (iN (va_up (va_up em 0 q1) 1 q2))))) (g + 81) (.inl (ca 0, 4, .inl (iN (va_up (va_up (va_up em 0 q1) 1 q2) 2 q3)))))
  refine lv_aload_n hx hb d_Pg_emit_21 rfl (lv_at hl 0 rfl) ?_
  refine gm_get (C := R_Pg) (T := F_Pg) (n := 15) hx hb htl i_Pg hown hK hP h_7 rfl 6 (by decide) (htl _ k_203) (fun _ h => h) rfl d_Pg_emit_22 ?_
  refine lv_iconst (v := nI 3) hx hb d_Pg_emit_25 (by decide) ?_
  refine lv_iload hx hb d_Pg_emit_26 (lv_at hl 4 rfl) ?_
  refine gz_iast hx hb hK hP hS 0 h_8 rfl (by omega) (by omega) d_Pg_emit_28 (fun H locs hP hS => ?_)
  have he_9 : gm_up (gm_up M (g + 81) (.inl (ca 0, 4, .inl (iN (va_up (va_up (va_up em 0 q1) 1 q2) 2 q3))))) (g + 81) (.inl (ca 0, 4, .inl (iN (va_up (va_up (va_up (va_up em 0 q1) 1 q2) 2 q3) 3 q4)))) = gm_up M (g + 81) (.inl (ca 0, 4, .inl (iN (va_up (va_up (va_up (va_up em 0 q1) 1 q2) 2 q3) 3 q4)))) := gm_up_up _ _ _ _
  have hP := Eq.mp (congrArg (fun Z => gm_P D cls A N Z H) he_9) hP
  have h_10 := (congrFun he_9 _).symm.trans (gm_pass (k := (g + 81)) (y := .inl (ca 0, 4, .inl (iN (va_up (va_up (va_up (va_up em 0 q1) 1 q2) 2 q3) 3 q4)))) h_7 (gm_ne h_7 h_8 (fun h => by cases h)))
  have h_11 := (congrFun he_9 _).symm.trans (gm_up_self (gm_up M (g + 81) (.inl (ca 0, 4, .inl (iN (va_up (va_up (va_up em 0 q1) 1 q2) 2 q3))))) (g + 81) (.inl (ca 0, 4, .inl (iN (va_up (va_up (va_up (va_up em 0 q1) 1 q2) 2 q3) 3 q4)))))
  exact gc_vret hx hb hr hlk hP hS d_Pg_emit_29 ⟨rfl, rfl⟩
set_option maxHeartbeats 4000000 in
set_option maxRecDepth 100000 in
theorem c_Pg_sendOut {g cu be so ta tm lt nt : Nat} {bp : Int32} {em : Nat → Nat} {k : Nat} (eg : M g = some (.inr (8, [.ref (g + 1), .ref (g + 3), .ref (g + 4), .ref (g + 57), .ref (g + 59), .ref (g + 63), .ref (g + 81), .ref cu, .ref be, .int (nI so), .int (nI ta), .int (nI tm), .int (nI lt), .int (nI nt), .int bp]))) (eem : M (g + 81) = some (.inl (ca 0, 4, .inl (iN em)))) (hso : so < 65536) (hta : ta < 65536) : gC l D ca A G y_Pg_sendOut (.code y_Pg_sendOut b_Pg_sendOut 2 (some .int)) ({ frames := 1, cells := 0, slots := 0, locals := 24 }) N M [.ref g, .int (nI k)] gm_i (fun (r : Int32) (N1 : Nat) (M1 : gm_M) => N = N1 ∧ gm_up M (g + 81) (.inl (ca 0, 4, .inl (iN (va_up (va_up (va_up (va_up em 0 200) 1 k) 2 (ta / 256)) 3 (ta % 256))))) = M1 ∧ nI 0 = r) := by
  refine gm_body (by decide) (Nat.le_of_ble_eq_true rfl) (fun p e s m below meth c ls hx hb hr hts hown hlk hml hnm hP hK hN hX hS hl => ?_)
  have htl : ∀ w ∈ LW, w.before _ s = true := fun w h => hts w (List.mem_cons_of_mem _ h)
  have hown : s.vm.findClass "PacketGate" = some m.cls := hown
  have hl : lv_has ls 2 [(0, .ref g), (1, .int (nI k))] := hl
  refine lv_aload_n hx hb d_Pg_sendOut_0 rfl (lv_at hl 0 rfl) ?_
  refine lv_sipush (v := nI 200) hx hb d_Pg_sendOut_1 (by decide) ?_
  refine lv_iload_n hx hb d_Pg_sendOut_4 rfl (lv_at hl 1 rfl) ?_
  refine lv_aload_n hx hb d_Pg_sendOut_5 rfl (lv_at hl 0 rfl) ?_
  refine gm_get (C := R_Pg) (T := F_Pg) (n := 15) hx hb htl i_Pg hown hK hP eg rfl 10 (by decide) (htl _ k_207) (fun _ h => h) rfl d_Pg_sendOut_6 ?_
  refine gc_S (n := 1) [.int (nI ta)] [.int (nI k), .int (nI 200), .ref g] hx hb hml hown hts hK hN hX hP hS (c_Pg_addressOf ta (by omega)) k_561 k_562 k_1 k_563 (by decide +kernel) ⟨by decide, by decide⟩ rfl hl.1 rfl (Nat.le_of_ble_eq_true rfl) d_Pg_sendOut_9 ⟨by decide, by decide⟩ (fun r N1 M_1 H locs hw hP hS => ?_)
  obtain ⟨rfl, hw⟩ := hw
  obtain ⟨rfl, rfl⟩ := hw
  refine W.eq (g2 := F0 m 12 ls [.int (nI (ta / 256)), .int (nI k), .int (nI 200), .ref g]) rfl ?_
  refine lv_aload_n hx hb d_Pg_sendOut_12 rfl (lv_at hl 0 rfl) ?_
  refine gm_get (C := R_Pg) (T := F_Pg) (n := 15) hx hb htl i_Pg hown hK hP eg rfl 10 (by decide) (htl _ k_207) (fun _ h => h) rfl d_Pg_sendOut_13 ?_
  refine gc_S (n := 1) [.int (nI ta)] [.int (nI (ta / 256)), .int (nI k), .int (nI 200), .ref g] hx hb hml hown hts hK hN hX hP hS (c_Pg_portOf ta (by omega)) k_601 k_602 k_1 k_603 (by decide +kernel) ⟨by decide, by decide⟩ rfl hl.1 rfl (Nat.le_of_ble_eq_true rfl) d_Pg_sendOut_16 ⟨by decide, by decide⟩ (fun r N1 M_2 H locs hw hP hS => ?_)
  obtain ⟨rfl, hw⟩ := hw
  obtain ⟨rfl, rfl⟩ := hw
  refine W.eq (g2 := F0 m 19 ls [.int (nI (ta % 256)), .int (nI (ta / 256)), .int (nI k), .int (nI 200), .ref g]) rfl ?_
  refine gc_V (q := (R_Pg, F_Pg, 15)) (n := 4) [.int (nI 200), .int (nI k), .int (nI (ta / 256)), .int (nI (ta % 256))] [] hx hb hml hown hts hK hN hX hP hS (c_Pg_emit eg eem) rfl eg k_604 k_606 ks_Pg_emit k_1 k_607 (by decide +kernel) ⟨by decide, by decide⟩ rfl hl.1 rfl (Nat.le_of_ble_eq_true rfl) d_Pg_sendOut_19 ⟨by decide, by decide⟩ (fun r N1 M_3 H locs hw hP hS => ?_)
  obtain ⟨rfl, hw⟩ := hw
  obtain rfl := hw
  have hP : gm_P D cls A N (gm_up M (g + 81) (.inl (ca 0, 4, .inl (iN (va_up (va_up (va_up (va_up em 0 200) 1 k) 2 (ta / 256)) 3 (ta % 256)))))) H := hP
  have h_4 := gm_pass (k := (g + 81)) (y := .inl (ca 0, 4, .inl (iN (va_up (va_up (va_up (va_up em 0 200) 1 k) 2 (ta / 256)) 3 (ta % 256))))) eg (gm_ne eg eem (fun h => by cases h))
  have h_5 := gm_up_self M (g + 81) (.inl (ca 0, 4, .inl (iN (va_up (va_up (va_up (va_up em 0 200) 1 k) 2 (ta / 256)) 3 (ta % 256)))))
  refine W.eq (g2 := F0 m 22 ls []) rfl ?_
  refine lv_iconst (v := nI 0) hx hb d_Pg_sendOut_22 (by decide) ?_
  exact gc_iret hx hb hr hlk hP hS d_Pg_sendOut_23 ⟨rfl, rfl, rfl⟩
set_option maxHeartbeats 4000000 in
set_option maxRecDepth 100000 in
theorem c_Pg_sendBetween {g cu be so ta tm lt nt : Nat} {bp : Int32} {em : Nat → Nat} {k1 k2 : Nat} (eg : M g = some (.inr (8, [.ref (g + 1), .ref (g + 3), .ref (g + 4), .ref (g + 57), .ref (g + 59), .ref (g + 63), .ref (g + 81), .ref cu, .ref be, .int (nI so), .int (nI ta), .int (nI tm), .int (nI lt), .int (nI nt), .int bp]))) (eem : M (g + 81) = some (.inl (ca 0, 4, .inl (iN em)))) (hk1 : k1 < 65536) (hk2 : k2 < 65536) : gC l D ca A G y_Pg_sendBetween (.code y_Pg_sendBetween b_Pg_sendBetween 3 (some .int)) ({ frames := 1, cells := 0, slots := 0, locals := 24 }) N M [.ref g, .int (nI k1), .int (nI k2)] gm_i (fun (r : Int32) (N1 : Nat) (M1 : gm_M) => N = N1 ∧ gm_up M (g + 81) (.inl (ca 0, 4, .inl (iN (va_up (va_up (va_up (va_up em 0 (k1 / 256)) 1 (k1 % 256)) 2 (k2 / 256)) 3 (k2 % 256))))) = M1 ∧ nI 0 = r) := by
  refine gm_body (by decide) (Nat.le_of_ble_eq_true rfl) (fun p e s m below meth c ls hx hb hr hts hown hlk hml hnm hP hK hN hX hS hl => ?_)
  have htl : ∀ w ∈ LW, w.before _ s = true := fun w h => hts w (List.mem_cons_of_mem _ h)
  have hown : s.vm.findClass "PacketGate" = some m.cls := hown
  have hl : lv_has ls 3 [(0, .ref g), (1, .int (nI k1)), (2, .int (nI k2))] := hl
  refine lv_aload_n hx hb d_Pg_sendBetween_0 rfl (lv_at hl 0 rfl) ?_
  refine lv_iload_n hx hb d_Pg_sendBetween_1 rfl (lv_at hl 1 rfl) ?_
  refine gc_S (n := 1) [.int (nI k1)] [.ref g] hx hb hml hown hts hK hN hX hP hS (c_Pg_addressOf k1 (by omega)) k_561 k_562 k_1 k_563 (by decide +kernel) ⟨by decide, by decide⟩ rfl hl.1 rfl (Nat.le_of_ble_eq_true rfl) d_Pg_sendBetween_2 ⟨by decide, by decide⟩ (fun r N1 M_1 H locs hw hP hS => ?_)
  obtain ⟨rfl, hw⟩ := hw
  obtain ⟨rfl, rfl⟩ := hw
  refine W.eq (g2 := F0 m 5 ls [.int (nI (k1 / 256)), .ref g]) rfl ?_
  refine lv_iload_n hx hb d_Pg_sendBetween_5 rfl (lv_at hl 1 rfl) ?_
  refine gc_S (n := 1) [.int (nI k1)] [.int (nI (k1 / 256)), .ref g] hx hb hml hown hts hK hN hX hP hS (c_Pg_portOf k1 (by omega)) k_601 k_602 k_1 k_603 (by decide +kernel) ⟨by decide, by decide⟩ rfl hl.1 rfl (Nat.le_of_ble_eq_true rfl) d_Pg_sendBetween_6 ⟨by decide, by decide⟩ (fun r N1 M_2 H locs hw hP hS => ?_)
  obtain ⟨rfl, hw⟩ := hw
  obtain ⟨rfl, rfl⟩ := hw
  refine W.eq (g2 := F0 m 9 ls [.int (nI (k1 % 256)), .int (nI (k1 / 256)), .ref g]) rfl ?_
  refine lv_iload_n hx hb d_Pg_sendBetween_9 rfl (lv_at hl 2 rfl) ?_
  refine gc_S (n := 1) [.int (nI k2)] [.int (nI (k1 % 256)), .int (nI (k1 / 256)), .ref g] hx hb hml hown hts hK hN hX hP hS (c_Pg_addressOf k2 (by omega)) k_561 k_562 k_1 k_563 (by decide +kernel) ⟨by decide, by decide⟩ rfl hl.1 rfl (Nat.le_of_ble_eq_true rfl) d_Pg_sendBetween_10 ⟨by decide, by decide⟩ (fun r N1 M_3 H locs hw hP hS => ?_)
  obtain ⟨rfl, hw⟩ := hw
  obtain ⟨rfl, rfl⟩ := hw
  refine W.eq (g2 := F0 m 13 ls [.int (nI (k2 / 256)), .int (nI (k1 % 256)), .int (nI (k1 / 256)), .ref g]) rfl ?_
  refine lv_iload_n hx hb d_Pg_sendBetween_13 rfl (lv_at hl 2 rfl) ?_
  refine gc_S (n := 1) [.int (nI k2)] [.int (nI (k2 / 256)), .int (nI (k1 % 256)), .int (nI (k1 / 256)), .ref g] hx hb hml hown hts hK hN hX hP hS (c_Pg_portOf k2 (by omega)) k_601 k_602 k_1 k_603 (by decide +kernel) ⟨by decide, by decide⟩ rfl hl.1 rfl (Nat.le_of_ble_eq_true rfl) d_Pg_sendBetween_14 ⟨by decide, by decide⟩ (fun r N1 M_4 H locs hw hP hS => ?_)
  obtain ⟨rfl, hw⟩ := hw
  obtain ⟨rfl, rfl⟩ := hw
  refine W.eq (g2 := F0 m 17 ls [.int (nI (k2 % 256)), .int (nI (k2 / 256)), .int (nI (k1 % 256)), .int (nI (k1 / 256)), .ref g]) rfl ?_
  refine gc_V (q := (R_Pg, F_Pg, 15)) (n := 4) [.int (nI (k1 / 256)), .int (nI (k1 % 256)), .int (nI (k2 / 256)), .int (nI (k2 % 256))] [] hx hb hml hown hts hK hN hX hP hS (c_Pg_emit eg eem) rfl eg k_604 k_606 ks_Pg_emit k_1 k_607 (by decide +kernel) ⟨by decide, by decide⟩ rfl hl.1 rfl (Nat.le_of_ble_eq_true rfl) d_Pg_sendBetween_17 ⟨by decide, by decide⟩ (fun r N1 M_5 H locs hw hP hS => ?_)
  obtain ⟨rfl, hw⟩ := hw
  obtain rfl := hw
  have hP : gm_P D cls A N (gm_up M (g + 81) (.inl (ca 0, 4, .inl (iN (va_up (va_up (va_up (va_up em 0 (k1 / 256)) 1 (k1 % 256)) 2 (k2 / 256)) 3 (k2 % 256)))))) H := hP
  have h_6 := gm_pass (k := (g + 81)) (y := .inl (ca 0, 4, .inl (iN (va_up (va_up (va_up (va_up em 0 (k1 / 256)) 1 (k1 % 256)) 2 (k2 / 256)) 3 (k2 % 256))))) eg (gm_ne eg eem (fun h => by cases h))
  have h_7 := gm_up_self M (g + 81) (.inl (ca 0, 4, .inl (iN (va_up (va_up (va_up (va_up em 0 (k1 / 256)) 1 (k1 % 256)) 2 (k2 / 256)) 3 (k2 % 256)))))
  refine W.eq (g2 := F0 m 20 ls []) rfl ?_
  refine lv_iconst (v := nI 0) hx hb d_Pg_sendBetween_20 (by decide) ?_
  exact gc_iret hx hb hr hlk hP hS d_Pg_sendBetween_21 ⟨rfl, rfl, rfl⟩
set_option maxHeartbeats 4000000 in
set_option maxRecDepth 100000 in
theorem c_Pg_sealPacket {g cu be so ta tm lt nt : Nat} {bp : Int32} {em : Nat → Nat} {cn cs ct ce : Nat} {cb : Int32} (eg : M g = some (.inr (8, [.ref (g + 1), .ref (g + 3), .ref (g + 4), .ref (g + 57), .ref (g + 59), .ref (g + 63), .ref (g + 81), .ref cu, .ref be, .int (nI so), .int (nI ta), .int (nI tm), .int (nI lt), .int (nI nt), .int bp]))) (eem : M (g + 81) = some (.inl (ca 0, 4, .inl (iN em)))) (ecu : M cu = some (.inr (0, [.int (nI cn), .int (nI cs), .int (nI ct), .int (nI ce), .int cb]))) (hcs0 : cs ≤ 40) (hcn : cn < 600000) : gC l D ca A G y_Pg_sealPacket (.code y_Pg_sealPacket b_Pg_sealPacket 1 (some .int)) ({ frames := 1, cells := 0, slots := 0, locals := 24 }) N M [.ref g] gm_i (fun (r : Int32) (N1 : Nat) (M1 : gm_M) => N = N1 ∧ (((cs = 40) ∧ M = M1 ∧ (-11) = r) ∨ ((cs < 40) ∧ gm_up (gm_up M cu (.inr (0, [.int (nI cn), .int (nI (cs + 1)), .int (nI ct), .int (nI ce), .int cb]))) (g + 81) (.inl (ca 0, 4, .inl (iN (va_up (va_up (va_up (va_up em 0 200) 1 cn) 2 250) 3 (cs + 1))))) = M1 ∧ nI 1 = r))) := by
  refine gm_body (by decide) (Nat.le_of_ble_eq_true rfl) (fun p e s m below meth c ls hx hb hr hts hown hlk hml hnm hP hK hN hX hS hl => ?_)
  have htl : ∀ w ∈ LW, w.before _ s = true := fun w h => hts w (List.mem_cons_of_mem _ h)
  have hown : s.vm.findClass "PacketGate" = some m.cls := hown
  have hl : lv_has ls 1 [(0, .ref g)] := hl
  refine lv_aload_n hx hb d_Pg_sealPacket_0 rfl (lv_at hl 0 rfl) ?_
  refine gm_get (C := R_Pg) (T := F_Pg) (n := 15) hx hb htl i_Pg hown hK hP eg rfl 7 (by decide) (htl _ k_204) (fun _ h => h) rfl d_Pg_sealPacket_1 ?_
  refine gm_get (C := R_As) (T := F_As) (n := 5) hx hb htl i_As hown hK hP ecu rfl 1 (by decide) (htl _ k_179) (fun _ h => h) rfl d_Pg_sealPacket_4 ?_
  refine lv_bipush (v := nI 40) hx hb d_Pg_sealPacket_7 (by decide) ?_
  refine ln_lt (tgt := 15) hx hb d_Pg_sealPacket_9 (by decide) (by omega) (by omega) (fun c_1 => ?_) (fun c_1 => ?_)
  · skip
    refine lv_aload_n hx hb d_Pg_sealPacket_15 rfl (lv_at hl 0 rfl) ?_
    refine gm_get (C := R_Pg) (T := F_Pg) (n := 15) hx hb htl i_Pg hown hK hP eg rfl 7 (by decide) (htl _ k_204) (fun _ h => h) rfl d_Pg_sealPacket_16 ?_
    refine lv_dup hx hb d_Pg_sealPacket_19 rfl ?_
    refine gm_get (C := R_As) (T := F_As) (n := 5) hx hb htl i_As hown hK hP ecu rfl 1 (by decide) (htl _ k_179) (fun _ h => h) rfl d_Pg_sealPacket_20 ?_
    refine lv_iconst (v := nI 1) hx hb d_Pg_sealPacket_23 (by decide) ?_
    refine lv_iadd hx hb d_Pg_sealPacket_24 ?_
    rw [show (nI cs) + (nI 1) = nI (cs + 1) from nI_add _ _]
    refine gm_put (C := R_As) (T := F_As) (n := 5) (ty := .int) hx hb htl i_As t_As tk_As n_As hown hK hP hS ecu rfl 1 (by decide) (htl _ k_179) (fun _ h => h) rfl (tk_As 1 (by decide)) rfl rfl (Nat.le_of_ble_eq_true rfl) d_Pg_sealPacket_25 (fun H locs hP hS => ?_)
    have hP : gm_P D cls A N (gm_up M cu (.inr (0, [.int (nI cn), .int (nI (cs + 1)), .int (nI ct), .int (nI ce), .int cb]))) H := hP
    have h_2 := gm_pass (k := cu) (y := .inr (0, [.int (nI cn), .int (nI (cs + 1)), .int (nI ct), .int (nI ce), .int cb])) eg (gm_ne eg ecu (fun h => by cases h))
    have h_3 := gm_pass (k := cu) (y := .inr (0, [.int (nI cn), .int (nI (cs + 1)), .int (nI ct), .int (nI ce), .int cb])) eem (gm_ne eem ecu (fun h => by cases h))
    have h_4 := gm_up_self M cu (.inr (0, [.int (nI cn), .int (nI (cs + 1)), .int (nI ct), .int (nI ce), .int cb]))
    refine lv_aload_n hx hb d_Pg_sealPacket_28 rfl (lv_at hl 0 rfl) ?_
    refine lv_sipush (v := nI 200) hx hb d_Pg_sealPacket_29 (by decide) ?_
    refine lv_aload_n hx hb d_Pg_sealPacket_32 rfl (lv_at hl 0 rfl) ?_
    refine gm_get (C := R_Pg) (T := F_Pg) (n := 15) hx hb htl i_Pg hown hK hP h_2 rfl 7 (by decide) (htl _ k_204) (fun _ h => h) rfl d_Pg_sealPacket_33 ?_
    refine gm_get (C := R_As) (T := F_As) (n := 5) hx hb htl i_As hown hK hP h_4 rfl 0 (by decide) (htl _ k_177) (fun _ h => h) rfl d_Pg_sealPacket_36 ?_
    refine lv_sipush (v := nI 250) hx hb d_Pg_sealPacket_39 (by decide) ?_
    refine lv_aload_n hx hb d_Pg_sealPacket_42 rfl (lv_at hl 0 rfl) ?_
    refine gm_get (C := R_Pg) (T := F_Pg) (n := 15) hx hb htl i_Pg hown hK hP h_2 rfl 7 (by decide) (htl _ k_204) (fun _ h => h) rfl d_Pg_sealPacket_43 ?_
    refine gm_get (C := R_As) (T := F_As) (n := 5) hx hb htl i_As hown hK hP h_4 rfl 1 (by decide) (htl _ k_179) (fun _ h => h) rfl d_Pg_sealPacket_46 ?_
    refine gc_V (q := (R_Pg, F_Pg, 15)) (n := 4) [.int (nI 200), .int (nI cn), .int (nI 250), .int (nI (cs + 1))] [] hx hb hml hown hts hK hN hX hP hS (c_Pg_emit h_2 h_3) rfl h_2 k_604 k_606 ks_Pg_emit k_1 k_607 (by decide +kernel) ⟨by decide, by decide⟩ rfl hl.1 rfl (Nat.le_of_ble_eq_true rfl) d_Pg_sealPacket_49 ⟨by decide, by decide⟩ (fun r N1 M_5 H locs hw hP hS => ?_)
    obtain ⟨rfl, hw⟩ := hw
    obtain rfl := hw
    have hP : gm_P D cls A N (gm_up (gm_up M cu (.inr (0, [.int (nI cn), .int (nI (cs + 1)), .int (nI ct), .int (nI ce), .int cb]))) (g + 81) (.inl (ca 0, 4, .inl (iN (va_up (va_up (va_up (va_up em 0 200) 1 cn) 2 250) 3 (cs + 1)))))) H := hP
    have h_6 := gm_pass (k := (g + 81)) (y := .inl (ca 0, 4, .inl (iN (va_up (va_up (va_up (va_up em 0 200) 1 cn) 2 250) 3 (cs + 1))))) h_2 (gm_ne h_2 h_3 (fun h => by cases h))
    have h_7 := gm_pass (k := (g + 81)) (y := .inl (ca 0, 4, .inl (iN (va_up (va_up (va_up (va_up em 0 200) 1 cn) 2 250) 3 (cs + 1))))) h_4 (gm_ne h_4 h_3 (fun h => by cases h))
    have h_8 := gm_up_self (gm_up M cu (.inr (0, [.int (nI cn), .int (nI (cs + 1)), .int (nI ct), .int (nI ce), .int cb]))) (g + 81) (.inl (ca 0, 4, .inl (iN (va_up (va_up (va_up (va_up em 0 200) 1 cn) 2 250) 3 (cs + 1)))))
    refine W.eq (g2 := F0 m 52 ls []) rfl ?_
    refine lv_iconst (v := nI 1) hx hb d_Pg_sealPacket_52 (by decide) ?_
    exact gc_iret hx hb hr hlk hP hS d_Pg_sealPacket_53 (by first | exact ⟨rfl, Or.inl ⟨(by first | assumption | omega), rfl, rfl⟩⟩ | exact ⟨rfl, Or.inr ⟨(by first | assumption | omega), rfl, rfl⟩⟩)
  · skip
    refine lv_bipush (v := (-11)) hx hb d_Pg_sealPacket_12 (by decide) ?_
    exact gc_iret hx hb hr hlk hP hS d_Pg_sealPacket_14 (by first | exact ⟨rfl, Or.inl ⟨(by first | assumption | omega), rfl, rfl⟩⟩ | exact ⟨rfl, Or.inr ⟨(by first | assumption | omega), rfl, rfl⟩⟩)
set_option maxHeartbeats 4000000 in
set_option maxRecDepth 100000 in
theorem c_Pg_rekey {g cu be so ta tm lt nt : Nat} {bp : Int32} {cn cs ct ce : Nat} {cb : Int32} {bn bt bd : Nat} {bs bb : Int32} (eg : M g = some (.inr (8, [.ref (g + 1), .ref (g + 3), .ref (g + 4), .ref (g + 57), .ref (g + 59), .ref (g + 63), .ref (g + 81), .ref cu, .ref be, .int (nI so), .int (nI ta), .int (nI tm), .int (nI lt), .int (nI nt), .int bp]))) (ecu : M cu = some (.inr (0, [.int (nI cn), .int (nI cs), .int (nI ct), .int (nI ce), .int cb]))) (ebe : M be = some (.inr (0, [.int (nI bn), .int bs, .int (nI bt), .int (nI bd), .int bb]))) (htm : tm < 600000) (hcn : cn < 600000) (hcb : cu ≠ be) : gC l D ca A G y_Pg_rekey (.code y_Pg_rekey b_Pg_rekey 2 (some .int)) ({ frames := 1, cells := 0, slots := 0, locals := 21 }) N M [.ref g] gm_i (fun (r : Int32) (N1 : Nat) (M1 : gm_M) => N = N1 ∧ gm_up (gm_up (gm_up M g (.inr (8, [.ref (g + 1), .ref (g + 3), .ref (g + 4), .ref (g + 57), .ref (g + 59), .ref (g + 63), .ref (g + 81), .ref be, .ref cu, .int (nI so), .int (nI ta), .int (nI tm), .int (nI lt), .int (nI nt), .int bp]))) cu (.inr (0, [.int (nI cn), .int (nI cs), .int (nI ct), .int (nI (tm + 20)), .int cb]))) be (.inr (0, [.int (nI (cn + 1)), .int (nI 0), .int (nI 0), .int (nI 0), .int (nI 0)])) = M1 ∧ nI (cn + 1) = r) := by
  refine gm_body (by decide) (Nat.le_of_ble_eq_true rfl) (fun p e s m below meth c ls hx hb hr hts hown hlk hml hnm hP hK hN hX hS hl => ?_)
  have htl : ∀ w ∈ LW, w.before _ s = true := fun w h => hts w (List.mem_cons_of_mem _ h)
  have hown : s.vm.findClass "PacketGate" = some m.cls := hown
  have hl : lv_has ls 2 [(0, .ref g)] := hl
  refine lv_aload_n hx hb d_Pg_rekey_0 rfl (lv_at hl 0 rfl) ?_
  refine gm_get (C := R_Pg) (T := F_Pg) (n := 15) hx hb htl i_Pg hown hK hP eg rfl 8 (by decide) (htl _ k_205) (fun _ h => h) rfl d_Pg_rekey_1 ?_
  refine lv_astore_n (lv' := [(1, .ref be), (0, .ref g)]) hx hb d_Pg_rekey_4 rfl hl (by decide) rfl (fun ls hl => ?_)
  refine lv_aload_n hx hb d_Pg_rekey_5 rfl (lv_at hl 1 rfl) ?_
  refine lv_aload_n hx hb d_Pg_rekey_6 rfl (lv_at hl 1 rfl) ?_
  refine gm_get (C := R_Pg) (T := F_Pg) (n := 15) hx hb htl i_Pg hown hK hP eg rfl 7 (by decide) (htl _ k_204) (fun _ h => h) rfl d_Pg_rekey_7 ?_
  refine gm_put (C := R_Pg) (T := F_Pg) (n := 15) (ty := .object "PacketGate$Association") hx hb htl i_Pg t_Pg tk_Pg n_Pg hown hK hP hS eg rfl 8 (by decide) (htl _ k_205) (fun _ h => h) rfl (tk_Pg 8 (by decide)) rfl rfl (Nat.le_of_ble_eq_true rfl) d_Pg_rekey_10 (fun H locs hP hS => ?_)
  have hP : gm_P D cls A N (gm_up M g (.inr (8, [.ref (g + 1), .ref (g + 3), .ref (g + 4), .ref (g + 57), .ref (g + 59), .ref (g + 63), .ref (g + 81), .ref cu, .ref cu, .int (nI so), .int (nI ta), .int (nI tm), .int (nI lt), .int (nI nt), .int bp]))) H := hP
  have h_1 := gm_pass (k := g) (y := .inr (8, [.ref (g + 1), .ref (g + 3), .ref (g + 4), .ref (g + 57), .ref (g + 59), .ref (g + 63), .ref (g + 81), .ref cu, .ref cu, .int (nI so), .int (nI ta), .int (nI tm), .int (nI lt), .int (nI nt), .int bp])) ecu (gm_ne ecu eg (fun h => by cases h))
  have h_2 := gm_pass (k := g) (y := .inr (8, [.ref (g + 1), .ref (g + 3), .ref (g + 4), .ref (g + 57), .ref (g + 59), .ref (g + 63), .ref (g + 81), .ref cu, .ref cu, .int (nI so), .int (nI ta), .int (nI tm), .int (nI lt), .int (nI nt), .int bp])) ebe (gm_ne ebe eg (fun h => by cases h))
  have h_3 := gm_up_self M g (.inr (8, [.ref (g + 1), .ref (g + 3), .ref (g + 4), .ref (g + 57), .ref (g + 59), .ref (g + 63), .ref (g + 81), .ref cu, .ref cu, .int (nI so), .int (nI ta), .int (nI tm), .int (nI lt), .int (nI nt), .int bp]))
  refine lv_aload_n hx hb d_Pg_rekey_13 rfl (lv_at hl 1 rfl) ?_
  refine gm_get (C := R_Pg) (T := F_Pg) (n := 15) hx hb htl i_Pg hown hK hP h_3 rfl 8 (by decide) (htl _ k_205) (fun _ h => h) rfl d_Pg_rekey_14 ?_
  refine lv_aload_n hx hb d_Pg_rekey_17 rfl (lv_at hl 1 rfl) ?_
  refine gm_get (C := R_Pg) (T := F_Pg) (n := 15) hx hb htl i_Pg hown hK hP h_3 rfl 11 (by decide) (htl _ k_208) (fun _ h => h) rfl d_Pg_rekey_18 ?_
  refine lv_bipush (v := nI 20) hx hb d_Pg_rekey_21 (by decide) ?_
  refine lv_iadd hx hb d_Pg_rekey_23 ?_
  rw [show (nI tm) + (nI 20) = nI (tm + 20) from nI_add _ _]
  refine gm_put (C := R_As) (T := F_As) (n := 5) (ty := .int) hx hb htl i_As t_As tk_As n_As hown hK hP hS h_1 rfl 3 (by decide) (htl _ k_183) (fun _ h => h) rfl (tk_As 3 (by decide)) rfl rfl (Nat.le_of_ble_eq_true rfl) d_Pg_rekey_24 (fun H locs hP hS => ?_)
  have hP : gm_P D cls A N (gm_up (gm_up M g (.inr (8, [.ref (g + 1), .ref (g + 3), .ref (g + 4), .ref (g + 57), .ref (g + 59), .ref (g + 63), .ref (g + 81), .ref cu, .ref cu, .int (nI so), .int (nI ta), .int (nI tm), .int (nI lt), .int (nI nt), .int bp]))) cu (.inr (0, [.int (nI cn), .int (nI cs), .int (nI ct), .int (nI (tm + 20)), .int cb]))) H := hP
  have h_4 := gm_pass (k := cu) (y := .inr (0, [.int (nI cn), .int (nI cs), .int (nI ct), .int (nI (tm + 20)), .int cb])) h_2 (Ne.symm hcb)
  have h_5 := gm_pass (k := cu) (y := .inr (0, [.int (nI cn), .int (nI cs), .int (nI ct), .int (nI (tm + 20)), .int cb])) h_3 (gm_ne h_3 h_1 (fun h => by cases h))
  have h_6 := gm_up_self (gm_up M g (.inr (8, [.ref (g + 1), .ref (g + 3), .ref (g + 4), .ref (g + 57), .ref (g + 59), .ref (g + 63), .ref (g + 81), .ref cu, .ref cu, .int (nI so), .int (nI ta), .int (nI tm), .int (nI lt), .int (nI nt), .int bp]))) cu (.inr (0, [.int (nI cn), .int (nI cs), .int (nI ct), .int (nI (tm + 20)), .int cb]))
  refine lv_aload_n hx hb d_Pg_rekey_27 rfl (lv_at hl 1 rfl) ?_
  refine lv_aload_n hx hb d_Pg_rekey_28 rfl (lv_at hl 0 rfl) ?_
  refine gm_put (C := R_Pg) (T := F_Pg) (n := 15) (ty := .object "PacketGate$Association") hx hb htl i_Pg t_Pg tk_Pg n_Pg hown hK hP hS h_5 rfl 7 (by decide) (htl _ k_204) (fun _ h => h) rfl (tk_Pg 7 (by decide)) rfl rfl (Nat.le_of_ble_eq_true rfl) d_Pg_rekey_29 (fun H locs hP hS => ?_)
  have he_7 : gm_up (gm_up (gm_up M g (.inr (8, [.ref (g + 1), .ref (g + 3), .ref (g + 4), .ref (g + 57), .ref (g + 59), .ref (g + 63), .ref (g + 81), .ref cu, .ref cu, .int (nI so), .int (nI ta), .int (nI tm), .int (nI lt), .int (nI nt), .int bp]))) cu (.inr (0, [.int (nI cn), .int (nI cs), .int (nI ct), .int (nI (tm + 20)), .int cb]))) g (.inr (8, [.ref (g + 1), .ref (g + 3), .ref (g + 4), .ref (g + 57), .ref (g + 59), .ref (g + 63), .ref (g + 81), .ref be, .ref cu, .int (nI so), .int (nI ta), .int (nI tm), .int (nI lt), .int (nI nt), .int bp])) = gm_up (gm_up M g (.inr (8, [.ref (g + 1), .ref (g + 3), .ref (g + 4), .ref (g + 57), .ref (g + 59), .ref (g + 63), .ref (g + 81), .ref be, .ref cu, .int (nI so), .int (nI ta), .int (nI tm), .int (nI lt), .int (nI nt), .int bp]))) cu (.inr (0, [.int (nI cn), .int (nI cs), .int (nI ct), .int (nI (tm + 20)), .int cb])) := (gm_swap (gm_ne h_6 h_5 (fun h => by cases h))).trans (congrArg (fun Z => gm_up Z cu (.inr (0, [.int (nI cn), .int (nI cs), .int (nI ct), .int (nI (tm + 20)), .int cb]))) (gm_up_up _ _ _ _))
  have hP := Eq.mp (congrArg (fun Z => gm_P D cls A N Z H) he_7) hP
  have h_8 := (congrFun he_7 _).symm.trans (gm_pass (k := g) (y := .inr (8, [.ref (g + 1), .ref (g + 3), .ref (g + 4), .ref (g + 57), .ref (g + 59), .ref (g + 63), .ref (g + 81), .ref be, .ref cu, .int (nI so), .int (nI ta), .int (nI tm), .int (nI lt), .int (nI nt), .int bp])) h_4 (gm_ne h_4 h_5 (fun h => by cases h)))
  have h_9 := (congrFun he_7 _).symm.trans (gm_pass (k := g) (y := .inr (8, [.ref (g + 1), .ref (g + 3), .ref (g + 4), .ref (g + 57), .ref (g + 59), .ref (g + 63), .ref (g + 81), .ref be, .ref cu, .int (nI so), .int (nI ta), .int (nI tm), .int (nI lt), .int (nI nt), .int bp])) h_6 (gm_ne h_6 h_5 (fun h => by cases h)))
  have h_10 := (congrFun he_7 _).symm.trans (gm_up_self (gm_up (gm_up M g (.inr (8, [.ref (g + 1), .ref (g + 3), .ref (g + 4), .ref (g + 57), .ref (g + 59), .ref (g + 63), .ref (g + 81), .ref cu, .ref cu, .int (nI so), .int (nI ta), .int (nI tm), .int (nI lt), .int (nI nt), .int bp]))) cu (.inr (0, [.int (nI cn), .int (nI cs), .int (nI ct), .int (nI (tm + 20)), .int cb]))) g (.inr (8, [.ref (g + 1), .ref (g + 3), .ref (g + 4), .ref (g + 57), .ref (g + 59), .ref (g + 63), .ref (g + 81), .ref be, .ref cu, .int (nI so), .int (nI ta), .int (nI tm), .int (nI lt), .int (nI nt), .int bp])))
  refine lv_aload_n hx hb d_Pg_rekey_32 rfl (lv_at hl 1 rfl) ?_
  refine gm_get (C := R_Pg) (T := F_Pg) (n := 15) hx hb htl i_Pg hown hK hP h_10 rfl 7 (by decide) (htl _ k_204) (fun _ h => h) rfl d_Pg_rekey_33 ?_
  refine lv_aload_n hx hb d_Pg_rekey_36 rfl (lv_at hl 1 rfl) ?_
  refine gm_get (C := R_Pg) (T := F_Pg) (n := 15) hx hb htl i_Pg hown hK hP h_10 rfl 8 (by decide) (htl _ k_205) (fun _ h => h) rfl d_Pg_rekey_37 ?_
  refine gm_get (C := R_As) (T := F_As) (n := 5) hx hb htl i_As hown hK hP h_9 rfl 0 (by decide) (htl _ k_177) (fun _ h => h) rfl d_Pg_rekey_40 ?_
  refine lv_iconst (v := nI 1) hx hb d_Pg_rekey_43 (by decide) ?_
  refine lv_iadd hx hb d_Pg_rekey_44 ?_
  rw [show (nI cn) + (nI 1) = nI (cn + 1) from nI_add _ _]
  refine gc_V (q := (R_As, F_As, 5)) (n := 1) [.int (nI (cn + 1))] [] hx hb hml hown hts hK hN hX hP hS (c_As_begin h_8) rfl h_8 k_196 k_173 k_174 k_9 k_175 (by decide +kernel) ⟨by decide, by decide⟩ rfl hl.1 rfl (Nat.le_of_ble_eq_true rfl) d_Pg_rekey_45 ⟨by decide, by decide⟩ (fun r N1 M_11 H locs hw hP hS => ?_)
  obtain ⟨rfl, hw⟩ := hw
  obtain rfl := hw
  have hP : gm_P D cls A N (gm_up (gm_up (gm_up M g (.inr (8, [.ref (g + 1), .ref (g + 3), .ref (g + 4), .ref (g + 57), .ref (g + 59), .ref (g + 63), .ref (g + 81), .ref be, .ref cu, .int (nI so), .int (nI ta), .int (nI tm), .int (nI lt), .int (nI nt), .int bp]))) cu (.inr (0, [.int (nI cn), .int (nI cs), .int (nI ct), .int (nI (tm + 20)), .int cb]))) be (.inr (0, [.int (nI (cn + 1)), .int (nI 0), .int (nI 0), .int (nI 0), .int (nI 0)]))) H := hP
  have h_12 := gm_pass (k := be) (y := .inr (0, [.int (nI (cn + 1)), .int (nI 0), .int (nI 0), .int (nI 0), .int (nI 0)])) h_9 hcb
  have h_13 := gm_pass (k := be) (y := .inr (0, [.int (nI (cn + 1)), .int (nI 0), .int (nI 0), .int (nI 0), .int (nI 0)])) h_10 (gm_ne h_10 h_8 (fun h => by cases h))
  have h_14 := gm_up_self (gm_up (gm_up M g (.inr (8, [.ref (g + 1), .ref (g + 3), .ref (g + 4), .ref (g + 57), .ref (g + 59), .ref (g + 63), .ref (g + 81), .ref be, .ref cu, .int (nI so), .int (nI ta), .int (nI tm), .int (nI lt), .int (nI nt), .int bp]))) cu (.inr (0, [.int (nI cn), .int (nI cs), .int (nI ct), .int (nI (tm + 20)), .int cb]))) be (.inr (0, [.int (nI (cn + 1)), .int (nI 0), .int (nI 0), .int (nI 0), .int (nI 0)]))
  refine W.eq (g2 := F0 m 48 ls []) rfl ?_
  refine lv_aload_n hx hb d_Pg_rekey_48 rfl (lv_at hl 1 rfl) ?_
  refine gm_get (C := R_Pg) (T := F_Pg) (n := 15) hx hb htl i_Pg hown hK hP h_13 rfl 7 (by decide) (htl _ k_204) (fun _ h => h) rfl d_Pg_rekey_49 ?_
  refine gm_get (C := R_As) (T := F_As) (n := 5) hx hb htl i_As hown hK hP h_14 rfl 0 (by decide) (htl _ k_177) (fun _ h => h) rfl d_Pg_rekey_52 ?_
  exact gc_iret hx hb hr hlk hP hS d_Pg_rekey_55 ⟨rfl, rfl, rfl⟩
set_option maxHeartbeats 4000000 in
set_option maxRecDepth 100000 in
theorem c_Pg_mappedPort {g cu be so ta tm lt nt : Nat} {bp : Int32} {ne : Nat} {pp : Nat → Nat} {po : Nat → Nat} {pi : Nat → Nat} {nf : Nat} {fa : Nat → Nat} {fl : Nat → Nat → Nat} {a b : Nat} (eg : M g = some (.inr (8, [.ref (g + 1), .ref (g + 3), .ref (g + 4), .ref (g + 57), .ref (g + 59), .ref (g + 63), .ref (g + 81), .ref cu, .ref be, .int (nI so), .int (nI ta), .int (nI tm), .int (nI lt), .int (nI nt), .int bp]))) (ex0 : M (g + 59) = some (.inr (1, [.ref (g + 60), .ref (g + 61), .ref (g + 62), .int (nI ne)]))) (ex1 : M (g + 60) = some (.inl (ca 0, 4, .inl (iN pp)))) (ex2 : M (g + 61) = some (.inl (ca 0, 4, .inl (iN po)))) (ex3 : M (g + 62) = some (.inl (ca 0, 4, .inl (iN pi)))) (ef : M (g + 63) = some (.inr (3, [.ref (g + 64), .int (nI nf)]))) (efa : M (g + 64) = some (.inl (ca 3, 16, .inr (.inr (.inr (.inr (oF fa))))))) (hne : ne ≤ 4) (hpp : ∀ k, pp k < 65536) (hpo : ∀ k, po k < 65536) (hpi : ∀ k, pi k < 65536) (hf : ∀ fi, fi < 16 → M (fa fi) = some (.inr (2, [.int (nI (fl fi 0)), .int (nI (fl fi 1)), .int (nI (fl fi 2)), .int (nI (fl fi 3)), .int (nI (fl fi 4)), .int (nI (fl fi 5)), .int (nI (fl fi 6)), .int (nI (fl fi 7))]))) (hnf : nf ≤ 16) (hA : okA (g + 65) fa) (hF : okF fl) (ha : a < 65536) (hb0 : b < 65536) : gC l D ca A G y_Pg_mappedPort (.code y_Pg_mappedPort b_Pg_mappedPort 4 (some .int)) ({ frames := 1, cells := 0, slots := 0, locals := 23 }) N M [.ref g, .int (nI a), .int (nI b)] gm_i (fun (r : Int32) (N1 : Nat) (M1 : gm_M) => N = N1 ∧ ((∃ (k : Nat), (k < ne) ∧ (pp k = a ∧ pi k = b) ∧ (∀ j, j < k → ¬ (pp j = a ∧ pi j = b)) ∧ M = M1 ∧ nI (po k) = r) ∨ (∃ (k : Nat), (∀ j, j < ne → ¬ (pp j = a ∧ pi j = b)) ∧ (k < nf) ∧ (fl k 0 = a ∧ fl k 1 = b) ∧ (∀ j, j < k → ¬ (fl j 0 = a ∧ fl j 1 = b)) ∧ M = M1 ∧ nI (fl k 3) = r) ∨ ((∀ j, j < ne → ¬ (pp j = a ∧ pi j = b)) ∧ (∀ j, j < nf → ¬ (fl j 0 = a ∧ fl j 1 = b)) ∧ M = M1 ∧ (-1) = r))) := by
  refine gm_body (by decide) (Nat.le_of_ble_eq_true rfl) (fun p e s m below meth c ls hx hb hr hts hown hlk hml hnm hP hK hN hX hS hl => ?_)
  have htl : ∀ w ∈ LW, w.before _ s = true := fun w h => hts w (List.mem_cons_of_mem _ h)
  have hown : s.vm.findClass "PacketGate" = some m.cls := hown
  have hl : lv_has ls 4 [(0, .ref g), (1, .int (nI a)), (2, .int (nI b))] := hl
  have hfb : ∀ i q, fl i q < 1000000 := fun i q => (hF i).1 q
  refine lv_aload_n hx hb d_Pg_mappedPort_0 rfl (lv_at hl 0 rfl) ?_
  refine gm_get (C := R_Pg) (T := F_Pg) (n := 15) hx hb htl i_Pg hown hK hP eg rfl 4 (by decide) (htl _ k_201) (fun _ h => h) rfl d_Pg_mappedPort_1 ?_
  refine lv_iload_n hx hb d_Pg_mappedPort_4 rfl (lv_at hl 1 rfl) ?_
  refine lv_iload_n hx hb d_Pg_mappedPort_5 rfl (lv_at hl 2 rfl) ?_
  refine gc_V (q := (R_Ex, F_Ex, 4)) (n := 2) [.int (nI a), .int (nI b)] [] hx hb hml hown hts hK hN hX hP hS (c_Ex_portOfInside ex0 ex1 ex2 ex3 (by omega) hpp hpo hpi (by omega) (by omega)) rfl ex0 k_513 k_514 k_515 k_6 k_516 (by decide +kernel) ⟨by decide, by decide⟩ rfl hl.1 rfl (Nat.le_of_ble_eq_true rfl) d_Pg_mappedPort_6 ⟨by decide, by decide⟩ (fun r N1 M_1 H locs hw hP hS => ?_)
  obtain ⟨rfl, hw⟩ := hw
  rcases hw with ⟨kv_2, c_3, c_4, c_5, rfl, rfl⟩ | ⟨c_6, rfl, rfl⟩
  · skip
    refine W.eq (g2 := F0 m 9 ls [.int (nI (po kv_2))]) rfl ?_
    have b_7 := hpo kv_2
    refine lv_istore_n (lv' := [(3, .int (nI (po kv_2))), (0, .ref g), (1, .int (nI a)), (2, .int (nI b))]) hx hb d_Pg_mappedPort_9 rfl hl (by decide) rfl (fun ls hl => ?_)
    refine lv_iload_n hx hb d_Pg_mappedPort_10 rfl (lv_at hl 0 rfl) ?_
    refine lv_iconst (v := (-1)) hx hb d_Pg_mappedPort_11 (by decide) ?_
    refine lv_icmp_eq (tgt := 19) hx hb d_Pg_mappedPort_12 (by decide) (fun q => absurd q (nI_nm1 (by omega))) (fun _ => ?_)
    refine lv_iload_n hx hb d_Pg_mappedPort_15 rfl (lv_at hl 0 rfl) ?_
    refine lv_goto (tgt := 28) hx hb d_Pg_mappedPort_16 (by decide) ?_
    exact gc_iret hx hb hr hlk hP hS d_Pg_mappedPort_28 ⟨rfl, Or.inl ⟨kv_2, c_3, c_4, c_5, rfl, rfl⟩⟩
  · skip
    refine W.eq (g2 := F0 m 9 ls [.int (-1)]) rfl ?_
    refine lv_istore_n (lv' := [(3, .int (-1)), (0, .ref g), (1, .int (nI a)), (2, .int (nI b))]) hx hb d_Pg_mappedPort_9 rfl hl (by decide) rfl (fun ls hl => ?_)
    refine lv_iload_n hx hb d_Pg_mappedPort_10 rfl (lv_at hl 0 rfl) ?_
    refine lv_iconst (v := (-1)) hx hb d_Pg_mappedPort_11 (by decide) ?_
    refine lv_icmp_eq (tgt := 19) hx hb d_Pg_mappedPort_12 (by decide) (fun _ => ?_) (fun q => absurd q (by decide))
    refine lv_aload_n hx hb d_Pg_mappedPort_19 rfl (lv_at hl 1 rfl) ?_
    refine gm_get (C := R_Pg) (T := F_Pg) (n := 15) hx hb htl i_Pg hown hK hP eg rfl 5 (by decide) (htl _ k_202) (fun _ h => h) rfl d_Pg_mappedPort_20 ?_
    refine lv_iload_n hx hb d_Pg_mappedPort_23 rfl (lv_at hl 2 rfl) ?_
    refine lv_iload_n hx hb d_Pg_mappedPort_24 rfl (lv_at hl 3 rfl) ?_
    refine gc_V (q := (R_Ft, F_Ft, 2)) (n := 2) [.int (nI a), .int (nI b)] [] hx hb hml hown hts hK hN hX hP hS (c_Ft_portOfInside ef efa hf (by omega) hA hF (by omega) (by omega)) rfl ef k_517 k_518 k_519 k_7 k_520 (by decide +kernel) ⟨by decide, by decide⟩ rfl hl.1 rfl (Nat.le_of_ble_eq_true rfl) d_Pg_mappedPort_25 ⟨by decide, by decide⟩ (fun r N1 M_8 H locs hw hP hS => ?_)
    obtain ⟨rfl, hw⟩ := hw
    rcases hw with ⟨kv_9, c_10, c_11, c_12, rfl, rfl⟩ | ⟨c_13, rfl, rfl⟩
    · skip
      refine W.eq (g2 := F0 m 28 ls [.int (nI (fl kv_9 3))]) rfl ?_
      exact gc_iret hx hb hr hlk hP hS d_Pg_mappedPort_28 ⟨rfl, Or.inr (Or.inl ⟨kv_9, c_6, c_10, c_11, c_12, rfl, rfl⟩)⟩
    · skip
      refine W.eq (g2 := F0 m 28 ls [.int (-1)]) rfl ?_
      exact gc_iret hx hb hr hlk hP hS d_Pg_mappedPort_28 ⟨rfl, Or.inr (Or.inr ⟨c_6, c_13, rfl, rfl⟩)⟩
set_option maxHeartbeats 4000000 in
set_option maxRecDepth 100000 in
theorem c_Pg_mappedEndpoint {g cu be so ta tm lt nt : Nat} {bp : Int32} {ne : Nat} {pp : Nat → Nat} {po : Nat → Nat} {pi : Nat → Nat} {nf : Nat} {fa : Nat → Nat} {fl : Nat → Nat → Nat} {a b : Nat} (eg : M g = some (.inr (8, [.ref (g + 1), .ref (g + 3), .ref (g + 4), .ref (g + 57), .ref (g + 59), .ref (g + 63), .ref (g + 81), .ref cu, .ref be, .int (nI so), .int (nI ta), .int (nI tm), .int (nI lt), .int (nI nt), .int bp]))) (ex0 : M (g + 59) = some (.inr (1, [.ref (g + 60), .ref (g + 61), .ref (g + 62), .int (nI ne)]))) (ex1 : M (g + 60) = some (.inl (ca 0, 4, .inl (iN pp)))) (ex2 : M (g + 61) = some (.inl (ca 0, 4, .inl (iN po)))) (ex3 : M (g + 62) = some (.inl (ca 0, 4, .inl (iN pi)))) (ef : M (g + 63) = some (.inr (3, [.ref (g + 64), .int (nI nf)]))) (efa : M (g + 64) = some (.inl (ca 3, 16, .inr (.inr (.inr (.inr (oF fa))))))) (hne : ne ≤ 4) (hpp : ∀ k, pp k < 65536) (hpo : ∀ k, po k < 65536) (hpi : ∀ k, pi k < 65536) (hf : ∀ fi, fi < 16 → M (fa fi) = some (.inr (2, [.int (nI (fl fi 0)), .int (nI (fl fi 1)), .int (nI (fl fi 2)), .int (nI (fl fi 3)), .int (nI (fl fi 4)), .int (nI (fl fi 5)), .int (nI (fl fi 6)), .int (nI (fl fi 7))]))) (hnf : nf ≤ 16) (hA : okA (g + 65) fa) (hF : okF fl) (ha : a < 65536) (hb0 : b < 65536) : gC l D ca A G y_Pg_mappedEndpoint (.code y_Pg_mappedEndpoint b_Pg_mappedEndpoint 4 (some .int)) ({ frames := 2, cells := 0, slots := 0, locals := 46 }) N M [.ref g, .int (nI a), .int (nI b)] gm_i (fun (r : Int32) (N1 : Nat) (M1 : gm_M) => N = N1 ∧ ((∃ (k : Nat), (k < ne) ∧ (pp k = a ∧ po k = b) ∧ (∀ j, j < k → ¬ (pp j = a ∧ po j = b)) ∧ M = M1 ∧ nI (pi k) = r) ∨ (∃ (k : Nat), (∀ j, j < ne → ¬ (pp j = a ∧ po j = b)) ∧ (k < nf) ∧ (fl k 0 = a ∧ fl k 3 = b) ∧ (∀ j, j < k → ¬ (fl j 0 = a ∧ fl j 3 = b)) ∧ M = M1 ∧ nI (fl k 1) = r) ∨ ((∀ j, j < ne → ¬ (pp j = a ∧ po j = b)) ∧ (∀ j, j < nf → ¬ (fl j 0 = a ∧ fl j 3 = b)) ∧ M = M1 ∧ (-1) = r))) := by
  refine gm_body (by decide) (Nat.le_of_ble_eq_true rfl) (fun p e s m below meth c ls hx hb hr hts hown hlk hml hnm hP hK hN hX hS hl => ?_)
  have htl : ∀ w ∈ LW, w.before _ s = true := fun w h => hts w (List.mem_cons_of_mem _ h)
  have hown : s.vm.findClass "PacketGate" = some m.cls := hown
  have hl : lv_has ls 4 [(0, .ref g), (1, .int (nI a)), (2, .int (nI b))] := hl
  have hfb : ∀ i q, fl i q < 1000000 := fun i q => (hF i).1 q
  refine lv_aload_n hx hb d_Pg_mappedEndpoint_0 rfl (lv_at hl 0 rfl) ?_
  refine gm_get (C := R_Pg) (T := F_Pg) (n := 15) hx hb htl i_Pg hown hK hP eg rfl 4 (by decide) (htl _ k_201) (fun _ h => h) rfl d_Pg_mappedEndpoint_1 ?_
  refine lv_iload_n hx hb d_Pg_mappedEndpoint_4 rfl (lv_at hl 1 rfl) ?_
  refine lv_iload_n hx hb d_Pg_mappedEndpoint_5 rfl (lv_at hl 2 rfl) ?_
  refine gc_V (q := (R_Ex, F_Ex, 4)) (n := 2) [.int (nI a), .int (nI b)] [] hx hb hml hown hts hK hN hX hP hS (c_Ex_insideOfPort ex0 ex1 ex2 ex3 (by omega) hpp hpo hpi (by omega) (by omega)) rfl ex0 k_493 k_494 k_495 k_6 k_496 (by decide +kernel) ⟨by decide, by decide⟩ rfl hl.1 rfl (Nat.le_of_ble_eq_true rfl) d_Pg_mappedEndpoint_6 ⟨by decide, by decide⟩ (fun r N1 M_1 H locs hw hP hS => ?_)
  obtain ⟨rfl, hw⟩ := hw
  rcases hw with ⟨kv_2, c_3, c_4, c_5, rfl, rfl⟩ | ⟨c_6, rfl, rfl⟩
  · skip
    refine W.eq (g2 := F0 m 9 ls [.int (nI (pi kv_2))]) rfl ?_
    have b_7 := hpi kv_2
    refine lv_istore_n (lv' := [(3, .int (nI (pi kv_2))), (0, .ref g), (1, .int (nI a)), (2, .int (nI b))]) hx hb d_Pg_mappedEndpoint_9 rfl hl (by decide) rfl (fun ls hl => ?_)
    refine lv_iload_n hx hb d_Pg_mappedEndpoint_10 rfl (lv_at hl 0 rfl) ?_
    refine lv_iconst (v := (-1)) hx hb d_Pg_mappedEndpoint_11 (by decide) ?_
    refine lv_icmp_eq (tgt := 19) hx hb d_Pg_mappedEndpoint_12 (by decide) (fun q => absurd q (nI_nm1 (by omega))) (fun _ => ?_)
    refine lv_iload_n hx hb d_Pg_mappedEndpoint_15 rfl (lv_at hl 0 rfl) ?_
    refine lv_goto (tgt := 28) hx hb d_Pg_mappedEndpoint_16 (by decide) ?_
    exact gc_iret hx hb hr hlk hP hS d_Pg_mappedEndpoint_28 ⟨rfl, Or.inl ⟨kv_2, c_3, c_4, c_5, rfl, rfl⟩⟩
  · skip
    refine W.eq (g2 := F0 m 9 ls [.int (-1)]) rfl ?_
    refine lv_istore_n (lv' := [(3, .int (-1)), (0, .ref g), (1, .int (nI a)), (2, .int (nI b))]) hx hb d_Pg_mappedEndpoint_9 rfl hl (by decide) rfl (fun ls hl => ?_)
    refine lv_iload_n hx hb d_Pg_mappedEndpoint_10 rfl (lv_at hl 0 rfl) ?_
    refine lv_iconst (v := (-1)) hx hb d_Pg_mappedEndpoint_11 (by decide) ?_
    refine lv_icmp_eq (tgt := 19) hx hb d_Pg_mappedEndpoint_12 (by decide) (fun _ => ?_) (fun q => absurd q (by decide))
    refine lv_aload_n hx hb d_Pg_mappedEndpoint_19 rfl (lv_at hl 1 rfl) ?_
    refine gm_get (C := R_Pg) (T := F_Pg) (n := 15) hx hb htl i_Pg hown hK hP eg rfl 5 (by decide) (htl _ k_202) (fun _ h => h) rfl d_Pg_mappedEndpoint_20 ?_
    refine lv_iload_n hx hb d_Pg_mappedEndpoint_23 rfl (lv_at hl 2 rfl) ?_
    refine lv_iload_n hx hb d_Pg_mappedEndpoint_24 rfl (lv_at hl 3 rfl) ?_
    refine gc_V (q := (R_Ft, F_Ft, 2)) (n := 2) [.int (nI a), .int (nI b)] [] hx hb hml hown hts hK hN hX hP hS (c_Ft_insideOfPort ef efa hf (by omega) hA hF (by omega) (by omega)) rfl ef k_501 k_502 k_503 k_7 k_504 (by decide +kernel) ⟨by decide, by decide⟩ rfl hl.1 rfl (Nat.le_of_ble_eq_true rfl) d_Pg_mappedEndpoint_25 ⟨by decide, by decide⟩ (fun r N1 M_8 H locs hw hP hS => ?_)
    obtain ⟨rfl, hw⟩ := hw
    rcases hw with ⟨kv_9, c_10, c_11, c_12, rfl, rfl⟩ | ⟨c_13, rfl, rfl⟩
    · skip
      refine W.eq (g2 := F0 m 28 ls [.int (nI (fl kv_9 1))]) rfl ?_
      exact gc_iret hx hb hr hlk hP hS d_Pg_mappedEndpoint_28 ⟨rfl, Or.inr (Or.inl ⟨kv_9, c_6, c_10, c_11, c_12, rfl, rfl⟩)⟩
    · skip
      refine W.eq (g2 := F0 m 28 ls [.int (-1)]) rfl ?_
      exact gc_iret hx hb hr hlk hP hS d_Pg_mappedEndpoint_28 ⟨rfl, Or.inr (Or.inr ⟨c_6, c_13, rfl, rfl⟩)⟩
end C20
