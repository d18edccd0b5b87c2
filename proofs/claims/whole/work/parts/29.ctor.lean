section C29
variable {l : Launch} {D : va_G} {ca : Nat → ClassId} {A : Nat → Prop} {G : gG} {N : Nat} {M : gm_M}

set_option maxHeartbeats 4000000 in
set_option maxRecDepth 100000 in
theorem c_Fl_init {x : Nat} (e1 : M x = some (.inr (2, [.int 0, .int 0, .int 0, .int 0, .int 0, .int 0, .int 0, .int 0]))) : gC l D ca A G y_Fl_init (.code y_Fl_init b_Fl_init 1 none) ({ frames := 1, cells := 0, slots := 0, locals := 20 }) N M [.ref x] gm_v (fun (_ : Unit) (N1 : Nat) (M1 : gm_M) => N = N1 ∧ gm_up M x (.inr (2, [.int 0, .int 0, .int 0, .int 0, .int (nI 0), .int 0, .int 0, .int 0])) = M1) := by
  refine gm_body (by decide) (Nat.le_of_ble_eq_true rfl) (fun p e s m below meth c ls hx hb hr hts hown hlk hml hnm hP hK hN hX hS hl => ?_)
  have htl : ∀ w ∈ LW, w.before _ s = true := fun w h => hts w (List.mem_cons_of_mem _ h)
  have hown : s.vm.findClass "PacketGate$Flow" = some m.cls := hown
  have hl : lv_has ls 1 [(0, .ref x)] := hl
  refine lv_aload_n hx hb d_Fl_init_0 rfl (lv_at hl 0 rfl) ?_
  refine W.objInit hx hb hown (htl _ k_126) (htl _ k_23) (htl _ k_24) rfl (by rw [hml]; exact hl.1) rfl d_Fl_init_1 (Nat.le_of_ble_eq_true rfl) (Nat.le_of_ble_eq_true rfl) ?_
  refine W.eq (g2 := F0 m 4 ls []) rfl ?_
  refine lv_aload_n hx hb d_Fl_init_4 rfl (lv_at hl 0 rfl) ?_
  refine lv_iconst (v := nI 0) hx hb d_Fl_init_5 (by decide) ?_
  refine gm_put (C := R_Fl) (T := F_Fl) (n := 8) (ty := .int) hx hb htl i_Fl t_Fl tk_Fl n_Fl hown hK hP hS e1 rfl 4 (by decide) (htl _ k_136) (fun _ h => h) rfl (tk_Fl 4 (by decide)) rfl rfl (Nat.le_of_ble_eq_true rfl) d_Fl_init_6 (fun H locs hP hS => ?_)
  have hP : gm_P D cls A N (gm_up M x (.inr (2, [.int 0, .int 0, .int 0, .int 0, .int (nI 0), .int 0, .int 0, .int 0]))) H := hP
  have h_1 := gm_up_self M x (.inr (2, [.int 0, .int 0, .int 0, .int 0, .int (nI 0), .int 0, .int 0, .int 0]))
  exact gc_vret hx hb hr hlk hP hS d_Fl_init_9 ⟨rfl, rfl⟩
set_option maxHeartbeats 4000000 in
set_option maxRecDepth 100000 in
theorem c_Rr_init {x : Nat} (e1 : M x = some (.inr (7, [.int 0]))) : gC l D ca A G y_Rr_init (.code y_Rr_init b_Rr_init 1 none) ({ frames := 1, cells := 0, slots := 0, locals := 20 }) N M [.ref x] gm_v (fun (_ : Unit) (N1 : Nat) (M1 : gm_M) => N = N1 ∧ gm_up M x (.inr (7, [.int (nI 0)])) = M1) := by
  refine gm_body (by decide) (Nat.le_of_ble_eq_true rfl) (fun p e s m below meth c ls hx hb hr hts hown hlk hml hnm hP hK hN hX hS hl => ?_)
  have htl : ∀ w ∈ LW, w.before _ s = true := fun w h => hts w (List.mem_cons_of_mem _ h)
  have hown : s.vm.findClass "PacketGate$RuleReader" = some m.cls := hown
  have hl : lv_has ls 1 [(0, .ref x)] := hl
  refine lv_aload_n hx hb d_Rr_init_0 rfl (lv_at hl 0 rfl) ?_
  refine W.objInit hx hb hown (htl _ k_46) (htl _ k_23) (htl _ k_24) rfl (by rw [hml]; exact hl.1) rfl d_Rr_init_1 (Nat.le_of_ble_eq_true rfl) (Nat.le_of_ble_eq_true rfl) ?_
  refine W.eq (g2 := F0 m 4 ls []) rfl ?_
  refine lv_aload_n hx hb d_Rr_init_4 rfl (lv_at hl 0 rfl) ?_
  refine lv_iconst (v := nI 0) hx hb d_Rr_init_5 (by decide) ?_
  refine gm_put (C := R_Rr) (T := F_Rr) (n := 1) (ty := .int) hx hb htl i_Rr t_Rr tk_Rr n_Rr hown hK hP hS e1 rfl 0 (by decide) (htl _ k_47) (fun _ h => h) rfl (tk_Rr 0 (by decide)) rfl rfl (Nat.le_of_ble_eq_true rfl) d_Rr_init_6 (fun H locs hP hS => ?_)
  have hP : gm_P D cls A N (gm_up M x (.inr (7, [.int (nI 0)]))) H := hP
  have h_1 := gm_up_self M x (.inr (7, [.int (nI 0)]))
  exact gc_vret hx hb hr hlk hP hS d_Rr_init_9 ⟨rfl, rfl⟩
set_option maxHeartbeats 4000000 in
set_option maxRecDepth 100000 in
theorem c_As_init {x : Nat} (e1 : M x = some (.inr (0, [.int 0, .int 0, .int 0, .int 0, .int 0]))) : gC l D ca A G y_As_init (.code y_As_init b_As_init 1 none) ({ frames := 1, cells := 0, slots := 0, locals := 21 }) N M [.ref x] gm_v (fun (_ : Unit) (N1 : Nat) (M1 : gm_M) => N = N1 ∧ gm_up M x (.inr (0, [.int (nI 0), .int (nI 0), .int (nI 0), .int (nI 0), .int (nI 0)])) = M1) := by
  refine gm_body (by decide) (Nat.le_of_ble_eq_true rfl) (fun p e s m below meth c ls hx hb hr hts hown hlk hml hnm hP hK hN hX hS hl => ?_)
  have htl : ∀ w ∈ LW, w.before _ s = true := fun w h => hts w (List.mem_cons_of_mem _ h)
  have hown : s.vm.findClass "PacketGate$Association" = some m.cls := hown
  have hl : lv_has ls 1 [(0, .ref x)] := hl
  refine lv_aload_n hx hb d_As_init_0 rfl (lv_at hl 0 rfl) ?_
  refine W.objInit hx hb hown (htl _ k_171) (htl _ k_23) (htl _ k_24) rfl (by rw [hml]; exact hl.1) rfl d_As_init_1 (Nat.le_of_ble_eq_true rfl) (Nat.le_of_ble_eq_true rfl) ?_
  refine W.eq (g2 := F0 m 4 ls []) rfl ?_
  refine lv_aload_n hx hb d_As_init_4 rfl (lv_at hl 0 rfl) ?_
  refine lv_iconst (v := nI 0) hx hb d_As_init_5 (by decide) ?_
  refine gc_V (q := (R_As, F_As, 5)) (n := 1) [.int (nI 0)] [] hx hb hml hown hts hK hN hX hP hS (c_As_begin e1) rfl e1 k_172 k_173 k_174 k_9 k_175 (by decide +kernel) ⟨by decide, by decide⟩ rfl hl.1 rfl (Nat.le_of_ble_eq_true rfl) d_As_init_6 ⟨by decide, by decide⟩ (fun r N1 M_1 H locs hw hP hS => ?_)
  obtain ⟨rfl, hw⟩ := hw
  obtain rfl := hw
  have hP : gm_P D cls A N (gm_up M x (.inr (0, [.int (nI 0), .int (nI 0), .int (nI 0), .int (nI 0), .int (nI 0)]))) H := hP
  have h_2 := gm_up_self M x (.inr (0, [.int (nI 0), .int (nI 0), .int (nI 0), .int (nI 0), .int (nI 0)]))
  refine W.eq (g2 := F0 m 9 ls []) rfl ?_
  exact gc_vret hx hb hr hlk hP hS d_As_init_9 ⟨rfl, rfl⟩
set_option maxHeartbeats 4000000 in
set_option maxRecDepth 100000 in
theorem c_Li_init {x : Nat} (e1 : M x = some (.inr (4, [.null, .int 0]))) : gC l D ca A G y_Li_init (.code y_Li_init b_Li_init 1 none) ({ frames := 1, cells := 1, slots := 40, locals := 20 }) N M [.ref x] gm_v (fun (_ : Unit) (N1 : Nat) (M1 : gm_M) => (N + 1) = N1 ∧ gm_up (gm_up M N (.inl (ca 1, 40, .inl (fun _ => 0)))) x (.inr (4, [.ref N, .int (nI 0)])) = M1) := by
  refine gm_body (by decide) (Nat.le_of_ble_eq_true rfl) (fun p e s m below meth c ls hx hb hr hts hown hlk hml hnm hP hK hN hX hS hl => ?_)
  have htl : ∀ w ∈ LW, w.before _ s = true := fun w h => hts w (List.mem_cons_of_mem _ h)
  have hown : s.vm.findClass "PacketGate$Line" = some m.cls := hown
  have hl : lv_has ls 1 [(0, .ref x)] := hl
  have hA0 : ∀ q : Nat, s.heap.size ≤ q → A q := fun q h => hN q (by rw [← hP.1]; exact h)
  refine lv_aload_n hx hb d_Li_init_0 rfl (lv_at hl 0 rfl) ?_
  refine W.objInit hx hb hown (htl _ k_30) (htl _ k_23) (htl _ k_24) rfl (by rw [hml]; exact hl.1) rfl d_Li_init_1 (Nat.le_of_ble_eq_true rfl) (Nat.le_of_ble_eq_true rfl) ?_
  refine W.eq (g2 := F0 m 4 ls []) rfl ?_
  refine lv_aload_n hx hb d_Li_init_4 rfl (lv_at hl 0 rfl) ?_
  refine lv_bipush (v := nI 40) hx hb d_Li_init_5 (by decide) ?_
  have lt_1 := hP.lt e1
  refine gm_newa (a0 := (40, .inl (fun _ => 0))) (atype := .char) hx hb (htl _ k_40) rfl 1 hK rfl rfl hP hS hA0 (fun _ => rfl) (by decide) (show (nI 40).toNatClampNeg = 40 by decide) (by decide) (by decide) (by decide) d_Li_init_7 (fun H hP hS => ?_)
  have hP : gm_P D cls A (N + 1) (gm_up M N (.inl (ca 1, 40, .inl (fun _ => 0)))) H := hP
  have h_2 := gm_pass (k := N) (y := .inl (ca 1, 40, .inl (fun _ => 0))) e1 (by omega)
  have h_3 := gm_up_self M N (.inl (ca 1, 40, .inl (fun _ => 0)))
  refine W.widen (k := 1) (n := 40) (by decide) (by decide) ?_
  refine gm_putF (C := R_Li) (T := F_Li) (n := 2) (ty := .array .char) hx hb htl i_Li t_Li tk_Li n_Li hown hK hP hS h_2 rfl 0 (by decide) (htl _ k_31) (fun _ h => h) rfl hnm rfl (tk_Li 0 (by decide)) rfl rfl (Nat.le_of_ble_eq_true rfl) d_Li_init_9 (fun H locs hP hS => ?_)
  have hP : gm_P D cls A (N + 1) (gm_up (gm_up M N (.inl (ca 1, 40, .inl (fun _ => 0)))) x (.inr (4, [.ref N, .int 0]))) H := hP
  have h_4 := gm_pass (k := x) (y := .inr (4, [.ref N, .int 0])) h_3 (gm_ne h_3 h_2 (fun h => by cases h))
  have h_5 := gm_up_self (gm_up M N (.inl (ca 1, 40, .inl (fun _ => 0)))) x (.inr (4, [.ref N, .int 0]))
  refine lv_aload_n hx hb d_Li_init_12 rfl (lv_at hl 0 rfl) ?_
  refine lv_iconst (v := nI 0) hx hb d_Li_init_13 (by decide) ?_
  refine gm_put (C := R_Li) (T := F_Li) (n := 2) (ty := .int) hx hb htl i_Li t_Li tk_Li n_Li hown hK hP hS h_5 rfl 1 (by decide) (htl _ k_32) (fun _ h => h) rfl (tk_Li 1 (by decide)) rfl rfl (Nat.le_of_ble_eq_true rfl) d_Li_init_14 (fun H locs hP hS => ?_)
  have he_6 : gm_up (gm_up (gm_up M N (.inl (ca 1, 40, .inl (fun _ => 0)))) x (.inr (4, [.ref N, .int 0]))) x (.inr (4, [.ref N, .int (nI 0)])) = gm_up (gm_up M N (.inl (ca 1, 40, .inl (fun _ => 0)))) x (.inr (4, [.ref N, .int (nI 0)])) := gm_up_up _ _ _ _
  have hP := Eq.mp (congrArg (fun Z => gm_P D cls A (N + 1) Z H) he_6) hP
  have h_7 := (congrFun he_6 _).symm.trans (gm_pass (k := x) (y := .inr (4, [.ref N, .int (nI 0)])) h_4 (gm_ne h_4 h_5 (fun h => by cases h)))
  have h_8 := (congrFun he_6 _).symm.trans (gm_up_self (gm_up (gm_up M N (.inl (ca 1, 40, .inl (fun _ => 0)))) x (.inr (4, [.ref N, .int 0]))) x (.inr (4, [.ref N, .int (nI 0)])))
  exact gc_vret hx hb hr hlk hP hS d_Li_init_17 ⟨rfl, rfl⟩
set_option maxHeartbeats 4000000 in
set_option maxRecDepth 100000 in
theorem c_Ex_init {x : Nat} (e1 : M x = some (.inr (1, [.null, .null, .null, .int 0]))) : gC l D ca A G y_Ex_init (.code y_Ex_init b_Ex_init 1 none) ({ frames := 1, cells := 3, slots := 12, locals := 20 }) N M [.ref x] gm_v (fun (_ : Unit) (N1 : Nat) (M1 : gm_M) => (N + 3) = N1 ∧ gm_up (gm_up (gm_up (gm_up M N (.inl (ca 0, 4, .inl (iN (fun _ => 0))))) x (.inr (1, [.ref N, .ref (N + 1), .ref (N + 2), .int (nI 0)]))) (N + 1) (.inl (ca 0, 4, .inl (iN (fun _ => 0))))) (N + 2) (.inl (ca 0, 4, .inl (iN (fun _ => 0)))) = M1) := by
  refine gm_body (by decide) (Nat.le_of_ble_eq_true rfl) (fun p e s m below meth c ls hx hb hr hts hown hlk hml hnm hP hK hN hX hS hl => ?_)
  have htl : ∀ w ∈ LW, w.before _ s = true := fun w h => hts w (List.mem_cons_of_mem _ h)
  have hown : s.vm.findClass "PacketGate$Exposures" = some m.cls := hown
  have hl : lv_has ls 1 [(0, .ref x)] := hl
  have hA0 : ∀ q : Nat, s.heap.size ≤ q → A q := fun q h => hN q (by rw [← hP.1]; exact h)
  refine lv_aload_n hx hb d_Ex_init_0 rfl (lv_at hl 0 rfl) ?_
  refine W.objInit hx hb hown (htl _ k_99) (htl _ k_23) (htl _ k_24) rfl (by rw [hml]; exact hl.1) rfl d_Ex_init_1 (Nat.le_of_ble_eq_true rfl) (Nat.le_of_ble_eq_true rfl) ?_
  refine W.eq (g2 := F0 m 4 ls []) rfl ?_
  refine lv_aload_n hx hb d_Ex_init_4 rfl (lv_at hl 0 rfl) ?_
  refine lv_iconst (v := nI 4) hx hb d_Ex_init_5 (by decide) ?_
  have lt_1 := hP.lt e1
  refine gm_newa (a0 := (4, .inl (iN (fun _ => 0)))) (atype := .int) hx hb (htl _ k_85) rfl 0 hK rfl rfl hP hS hA0 (fun _ => rfl) (by decide) (show (nI 4).toNatClampNeg = 4 by decide) (by decide) (by decide) (by decide) d_Ex_init_6 (fun H hP hS => ?_)
  have hP : gm_P D cls A (N + 1) (gm_up M N (.inl (ca 0, 4, .inl (iN (fun _ => 0))))) H := hP
  have h_2 := gm_pass (k := N) (y := .inl (ca 0, 4, .inl (iN (fun _ => 0)))) e1 (by omega)
  have h_3 := gm_up_self M N (.inl (ca 0, 4, .inl (iN (fun _ => 0))))
  refine W.widen (k := 1) (n := 4) (by decide) (by decide) ?_
  refine gm_putF (C := R_Ex) (T := F_Ex) (n := 4) (ty := .array .int) hx hb htl i_Ex t_Ex tk_Ex n_Ex hown hK hP hS h_2 rfl 0 (by decide) (htl _ k_100) (fun _ h => h) rfl hnm rfl (tk_Ex 0 (by decide)) rfl rfl (Nat.le_of_ble_eq_true rfl) d_Ex_init_8 (fun H locs hP hS => ?_)
  have hP : gm_P D cls A (N + 1) (gm_up (gm_up M N (.inl (ca 0, 4, .inl (iN (fun _ => 0))))) x (.inr (1, [.ref N, .null, .null, .int 0]))) H := hP
  have h_4 := gm_pass (k := x) (y := .inr (1, [.ref N, .null, .null, .int 0])) h_3 (gm_ne h_3 h_2 (fun h => by cases h))
  have h_5 := gm_up_self (gm_up M N (.inl (ca 0, 4, .inl (iN (fun _ => 0))))) x (.inr (1, [.ref N, .null, .null, .int 0]))
  refine lv_aload_n hx hb d_Ex_init_11 rfl (lv_at hl 0 rfl) ?_
  refine lv_iconst (v := nI 4) hx hb d_Ex_init_12 (by decide) ?_
  have lt_6 := hP.lt h_4
  have lt_7 := hP.lt h_5
  refine gm_newa (a0 := (4, .inl (iN (fun _ => 0)))) (atype := .int) hx hb (htl _ k_85) rfl 0 hK rfl rfl hP hS hA0 (fun _ => rfl) (by decide) (show (nI 4).toNatClampNeg = 4 by decide) (by decide) (by decide) (by decide) d_Ex_init_13 (fun H hP hS => ?_)
  have hP : gm_P D cls A (N + 2) (gm_up (gm_up (gm_up M N (.inl (ca 0, 4, .inl (iN (fun _ => 0))))) x (.inr (1, [.ref N, .null, .null, .int 0]))) (N + 1) (.inl (ca 0, 4, .inl (iN (fun _ => 0))))) H := hP
  have h_8 := gm_pass (k := (N + 1)) (y := .inl (ca 0, 4, .inl (iN (fun _ => 0)))) h_4 (by omega)
  have h_9 := gm_pass (k := (N + 1)) (y := .inl (ca 0, 4, .inl (iN (fun _ => 0)))) h_5 (by omega)
  have h_10 := gm_up_self (gm_up (gm_up M N (.inl (ca 0, 4, .inl (iN (fun _ => 0))))) x (.inr (1, [.ref N, .null, .null, .int 0]))) (N + 1) (.inl (ca 0, 4, .inl (iN (fun _ => 0))))
  refine W.widen (k := 2) (n := 8) (by decide) (by decide) ?_
  refine gm_putF (C := R_Ex) (T := F_Ex) (n := 4) (ty := .array .int) hx hb htl i_Ex t_Ex tk_Ex n_Ex hown hK hP hS h_9 rfl 1 (by decide) (htl _ k_101) (fun _ h => h) rfl hnm rfl (tk_Ex 1 (by decide)) rfl rfl (Nat.le_of_ble_eq_true rfl) d_Ex_init_15 (fun H locs hP hS => ?_)
  have he_11 : gm_up (gm_up (gm_up (gm_up M N (.inl (ca 0, 4, .inl (iN (fun _ => 0))))) x (.inr (1, [.ref N, .null, .null, .int 0]))) (N + 1) (.inl (ca 0, 4, .inl (iN (fun _ => 0))))) x (.inr (1, [.ref N, .ref (N + 1), .null, .int 0])) = gm_up (gm_up (gm_up M N (.inl (ca 0, 4, .inl (iN (fun _ => 0))))) x (.inr (1, [.ref N, .ref (N + 1), .null, .int 0]))) (N + 1) (.inl (ca 0, 4, .inl (iN (fun _ => 0)))) := (gm_swap (gm_ne h_10 h_9 (fun h => by cases h))).trans (congrArg (fun Z => gm_up Z (N + 1) (.inl (ca 0, 4, .inl (iN (fun _ => 0))))) (gm_up_up _ _ _ _))
  have hP := Eq.mp (congrArg (fun Z => gm_P D cls A (N + 2) Z H) he_11) hP
  have h_12 := (congrFun he_11 _).symm.trans (gm_pass (k := x) (y := .inr (1, [.ref N, .ref (N + 1), .null, .int 0])) h_8 (gm_ne h_8 h_9 (fun h => by cases h)))
  have h_13 := (congrFun he_11 _).symm.trans (gm_pass (k := x) (y := .inr (1, [.ref N, .ref (N + 1), .null, .int 0])) h_10 (gm_ne h_10 h_9 (fun h => by cases h)))
  have h_14 := (congrFun he_11 _).symm.trans (gm_up_self (gm_up (gm_up (gm_up M N (.inl (ca 0, 4, .inl (iN (fun _ => 0))))) x (.inr (1, [.ref N, .null, .null, .int 0]))) (N + 1) (.inl (ca 0, 4, .inl (iN (fun _ => 0))))) x (.inr (1, [.ref N, .ref (N + 1), .null, .int 0])))
  refine lv_aload_n hx hb d_Ex_init_18 rfl (lv_at hl 0 rfl) ?_
  refine lv_iconst (v := nI 4) hx hb d_Ex_init_19 (by decide) ?_
  have lt_15 := hP.lt h_12
  have lt_16 := hP.lt h_13
  have lt_17 := hP.lt h_14
  refine gm_newa (a0 := (4, .inl (iN (fun _ => 0)))) (atype := .int) hx hb (htl _ k_85) rfl 0 hK rfl rfl hP hS hA0 (fun _ => rfl) (by decide) (show (nI 4).toNatClampNeg = 4 by decide) (by decide) (by decide) (by decide) d_Ex_init_20 (fun H hP hS => ?_)
  have hP : gm_P D cls A (N + 3) (gm_up (gm_up (gm_up (gm_up M N (.inl (ca 0, 4, .inl (iN (fun _ => 0))))) x (.inr (1, [.ref N, .ref (N + 1), .null, .int 0]))) (N + 1) (.inl (ca 0, 4, .inl (iN (fun _ => 0))))) (N + 2) (.inl (ca 0, 4, .inl (iN (fun _ => 0))))) H := hP
  have h_18 := gm_pass (k := (N + 2)) (y := .inl (ca 0, 4, .inl (iN (fun _ => 0)))) h_12 (by omega)
  have h_19 := gm_pass (k := (N + 2)) (y := .inl (ca 0, 4, .inl (iN (fun _ => 0)))) h_13 (by omega)
  have h_20 := gm_pass (k := (N + 2)) (y := .inl (ca 0, 4, .inl (iN (fun _ => 0)))) h_14 (by omega)
  have h_21 := gm_up_self (gm_up (gm_up (gm_up M N (.inl (ca 0, 4, .inl (iN (fun _ => 0))))) x (.inr (1, [.ref N, .ref (N + 1), .null, .int 0]))) (N + 1) (.inl (ca 0, 4, .inl (iN (fun _ => 0))))) (N + 2) (.inl (ca 0, 4, .inl (iN (fun _ => 0))))
  refine W.widen (k := 3) (n := 12) (by decide) (by decide) ?_
  refine gm_putF (C := R_Ex) (T := F_Ex) (n := 4) (ty := .array .int) hx hb htl i_Ex t_Ex tk_Ex n_Ex hown hK hP hS h_20 rfl 2 (by decide) (htl _ k_102) (fun _ h => h) rfl hnm rfl (tk_Ex 2 (by decide)) rfl rfl (Nat.le_of_ble_eq_true rfl) d_Ex_init_22 (fun H locs hP hS => ?_)
  have he_22 : gm_up (gm_up (gm_up (gm_up (gm_up M N (.inl (ca 0, 4, .inl (iN (fun _ => 0))))) x (.inr (1, [.ref N, .ref (N + 1), .null, .int 0]))) (N + 1) (.inl (ca 0, 4, .inl (iN (fun _ => 0))))) (N + 2) (.inl (ca 0, 4, .inl (iN (fun _ => 0))))) x (.inr (1, [.ref N, .ref (N + 1), .ref (N + 2), .int 0])) = gm_up (gm_up (gm_up (gm_up M N (.inl (ca 0, 4, .inl (iN (fun _ => 0))))) x (.inr (1, [.ref N, .ref (N + 1), .ref (N + 2), .int 0]))) (N + 1) (.inl (ca 0, 4, .inl (iN (fun _ => 0))))) (N + 2) (.inl (ca 0, 4, .inl (iN (fun _ => 0)))) := (gm_swap (gm_ne h_21 h_20 (fun h => by cases h))).trans (congrArg (fun Z => gm_up Z (N + 2) (.inl (ca 0, 4, .inl (iN (fun _ => 0))))) ((gm_swap (gm_ne h_19 h_20 (fun h => by cases h))).trans (congrArg (fun Z => gm_up Z (N + 1) (.inl (ca 0, 4, .inl (iN (fun _ => 0))))) (gm_up_up _ _ _ _))))
  have hP := Eq.mp (congrArg (fun Z => gm_P D cls A (N + 3) Z H) he_22) hP
  have h_23 := (congrFun he_22 _).symm.trans (gm_pass (k := x) (y := .inr (1, [.ref N, .ref (N + 1), .ref (N + 2), .int 0])) h_18 (gm_ne h_18 h_20 (fun h => by cases h)))
  have h_24 := (congrFun he_22 _).symm.trans (gm_pass (k := x) (y := .inr (1, [.ref N, .ref (N + 1), .ref (N + 2), .int 0])) h_19 (gm_ne h_19 h_20 (fun h => by cases h)))
  have h_25 := (congrFun he_22 _).symm.trans (gm_pass (k := x) (y := .inr (1, [.ref N, .ref (N + 1), .ref (N + 2), .int 0])) h_21 (gm_ne h_21 h_20 (fun h => by cases h)))
  have h_26 := (congrFun he_22 _).symm.trans (gm_up_self (gm_up (gm_up (gm_up (gm_up M N (.inl (ca 0, 4, .inl (iN (fun _ => 0))))) x (.inr (1, [.ref N, .ref (N + 1), .null, .int 0]))) (N + 1) (.inl (ca 0, 4, .inl (iN (fun _ => 0))))) (N + 2) (.inl (ca 0, 4, .inl (iN (fun _ => 0))))) x (.inr (1, [.ref N, .ref (N + 1), .ref (N + 2), .int 0])))
  refine lv_aload_n hx hb d_Ex_init_25 rfl (lv_at hl 0 rfl) ?_
  refine lv_iconst (v := nI 0) hx hb d_Ex_init_26 (by decide) ?_
  refine gm_put (C := R_Ex) (T := F_Ex) (n := 4) (ty := .int) hx hb htl i_Ex t_Ex tk_Ex n_Ex hown hK hP hS h_26 rfl 3 (by decide) (htl _ k_103) (fun _ h => h) rfl (tk_Ex 3 (by decide)) rfl rfl (Nat.le_of_ble_eq_true rfl) d_Ex_init_27 (fun H locs hP hS => ?_)
  have he_27 : gm_up (gm_up (gm_up (gm_up (gm_up M N (.inl (ca 0, 4, .inl (iN (fun _ => 0))))) x (.inr (1, [.ref N, .ref (N + 1), .ref (N + 2), .int 0]))) (N + 1) (.inl (ca 0, 4, .inl (iN (fun _ => 0))))) (N + 2) (.inl (ca 0, 4, .inl (iN (fun _ => 0))))) x (.inr (1, [.ref N, .ref (N + 1), .ref (N + 2), .int (nI 0)])) = gm_up (gm_up (gm_up (gm_up M N (.inl (ca 0, 4, .inl (iN (fun _ => 0))))) x (.inr (1, [.ref N, .ref (N + 1), .ref (N + 2), .int (nI 0)]))) (N + 1) (.inl (ca 0, 4, .inl (iN (fun _ => 0))))) (N + 2) (.inl (ca 0, 4, .inl (iN (fun _ => 0)))) := (gm_swap (gm_ne h_25 h_26 (fun h => by cases h))).trans (congrArg (fun Z => gm_up Z (N + 2) (.inl (ca 0, 4, .inl (iN (fun _ => 0))))) ((gm_swap (gm_ne h_24 h_26 (fun h => by cases h))).trans (congrArg (fun Z => gm_up Z (N + 1) (.inl (ca 0, 4, .inl (iN (fun _ => 0))))) (gm_up_up _ _ _ _))))
  have hP := Eq.mp (congrArg (fun Z => gm_P D cls A (N + 3) Z H) he_27) hP
  have h_28 := (congrFun he_27 _).symm.trans (gm_pass (k := x) (y := .inr (1, [.ref N, .ref (N + 1), .ref (N + 2), .int (nI 0)])) h_23 (gm_ne h_23 h_26 (fun h => by cases h)))
  have h_29 := (congrFun he_27 _).symm.trans (gm_pass (k := x) (y := .inr (1, [.ref N, .ref (N + 1), .ref (N + 2), .int (nI 0)])) h_24 (gm_ne h_24 h_26 (fun h => by cases h)))
  have h_30 := (congrFun he_27 _).symm.trans (gm_pass (k := x) (y := .inr (1, [.ref N, .ref (N + 1), .ref (N + 2), .int (nI 0)])) h_25 (gm_ne h_25 h_26 (fun h => by cases h)))
  have h_31 := (congrFun he_27 _).symm.trans (gm_up_self (gm_up (gm_up (gm_up (gm_up M N (.inl (ca 0, 4, .inl (iN (fun _ => 0))))) x (.inr (1, [.ref N, .ref (N + 1), .ref (N + 2), .int 0]))) (N + 1) (.inl (ca 0, 4, .inl (iN (fun _ => 0))))) (N + 2) (.inl (ca 0, 4, .inl (iN (fun _ => 0))))) x (.inr (1, [.ref N, .ref (N + 1), .ref (N + 2), .int (nI 0)])))
  exact gc_vret hx hb hr hlk hP hS d_Ex_init_30 ⟨rfl, rfl⟩
set_option maxHeartbeats 4000000 in
set_option maxRecDepth 100000 in
theorem c_Ru_init {x : Nat} (e1 : M x = some (.inr (5, [.int 0, .int 0, .int 0, .null, .null]))) : gC l D ca A G y_Ru_init (.code y_Ru_init b_Ru_init 1 none) ({ frames := 1, cells := 2, slots := 6, locals := 20 }) N M [.ref x] gm_v (fun (_ : Unit) (N1 : Nat) (M1 : gm_M) => (N + 2) = N1 ∧ gm_up (gm_up (gm_up M x (.inr (5, [.int (nI 1), .int (nI 2), .int (nI 3), .ref N, .ref (N + 1)]))) N (.inl (ca 0, 3, .inl (iN (fun _ => 0))))) (N + 1) (.inl (ca 0, 3, .inl (iN (fun _ => 0)))) = M1) := by
  refine gm_body (by decide) (Nat.le_of_ble_eq_true rfl) (fun p e s m below meth c ls hx hb hr hts hown hlk hml hnm hP hK hN hX hS hl => ?_)
  have htl : ∀ w ∈ LW, w.before _ s = true := fun w h => hts w (List.mem_cons_of_mem _ h)
  have hown : s.vm.findClass "PacketGate$Rule" = some m.cls := hown
  have hl : lv_has ls 1 [(0, .ref x)] := hl
  have hA0 : ∀ q : Nat, s.heap.size ≤ q → A q := fun q h => hN q (by rw [← hP.1]; exact h)
  refine lv_aload_n hx hb d_Ru_init_0 rfl (lv_at hl 0 rfl) ?_
  refine W.objInit hx hb hown (htl _ k_64) (htl _ k_23) (htl _ k_24) rfl (by rw [hml]; exact hl.1) rfl d_Ru_init_1 (Nat.le_of_ble_eq_true rfl) (Nat.le_of_ble_eq_true rfl) ?_
  refine W.eq (g2 := F0 m 4 ls []) rfl ?_
  refine lv_aload_n hx hb d_Ru_init_4 rfl (lv_at hl 0 rfl) ?_
  refine lv_iconst (v := nI 1) hx hb d_Ru_init_5 (by decide) ?_
  refine gm_put (C := R_Ru) (T := F_Ru) (n := 5) (ty := .int) hx hb htl i_Ru t_Ru tk_Ru n_Ru hown hK hP hS e1 rfl 0 (by decide) (htl _ k_65) (fun _ h => h) rfl (tk_Ru 0 (by decide)) rfl rfl (Nat.le_of_ble_eq_true rfl) d_Ru_init_6 (fun H locs hP hS => ?_)
  have hP : gm_P D cls A N (gm_up M x (.inr (5, [.int (nI 1), .int 0, .int 0, .null, .null]))) H := hP
  have h_1 := gm_up_self M x (.inr (5, [.int (nI 1), .int 0, .int 0, .null, .null]))
  refine lv_aload_n hx hb d_Ru_init_9 rfl (lv_at hl 0 rfl) ?_
  refine lv_iconst (v := nI 2) hx hb d_Ru_init_10 (by decide) ?_
  refine gm_put (C := R_Ru) (T := F_Ru) (n := 5) (ty := .int) hx hb htl i_Ru t_Ru tk_Ru n_Ru hown hK hP hS h_1 rfl 1 (by decide) (htl _ k_68) (fun _ h => h) rfl (tk_Ru 1 (by decide)) rfl rfl (Nat.le_of_ble_eq_true rfl) d_Ru_init_11 (fun H locs hP hS => ?_)
  have he_2 : gm_up (gm_up M x (.inr (5, [.int (nI 1), .int 0, .int 0, .null, .null]))) x (.inr (5, [.int (nI 1), .int (nI 2), .int 0, .null, .null])) = gm_up M x (.inr (5, [.int (nI 1), .int (nI 2), .int 0, .null, .null])) := gm_up_up _ _ _ _
  have hP := Eq.mp (congrArg (fun Z => gm_P D cls A N Z H) he_2) hP
  have h_3 := (congrFun he_2 _).symm.trans (gm_up_self (gm_up M x (.inr (5, [.int (nI 1), .int 0, .int 0, .null, .null]))) x (.inr (5, [.int (nI 1), .int (nI 2), .int 0, .null, .null])))
  refine lv_aload_n hx hb d_Ru_init_14 rfl (lv_at hl 0 rfl) ?_
  refine lv_iconst (v := nI 3) hx hb d_Ru_init_15 (by decide) ?_
  refine gm_put (C := R_Ru) (T := F_Ru) (n := 5) (ty := .int) hx hb htl i_Ru t_Ru tk_Ru n_Ru hown hK hP hS h_3 rfl 2 (by decide) (htl _ k_70) (fun _ h => h) rfl (tk_Ru 2 (by decide)) rfl rfl (Nat.le_of_ble_eq_true rfl) d_Ru_init_16 (fun H locs hP hS => ?_)
  have he_4 : gm_up (gm_up M x (.inr (5, [.int (nI 1), .int (nI 2), .int 0, .null, .null]))) x (.inr (5, [.int (nI 1), .int (nI 2), .int (nI 3), .null, .null])) = gm_up M x (.inr (5, [.int (nI 1), .int (nI 2), .int (nI 3), .null, .null])) := gm_up_up _ _ _ _
  have hP := Eq.mp (congrArg (fun Z => gm_P D cls A N Z H) he_4) hP
  have h_5 := (congrFun he_4 _).symm.trans (gm_up_self (gm_up M x (.inr (5, [.int (nI 1), .int (nI 2), .int 0, .null, .null]))) x (.inr (5, [.int (nI 1), .int (nI 2), .int (nI 3), .null, .null])))
  refine lv_aload_n hx hb d_Ru_init_19 rfl (lv_at hl 0 rfl) ?_
  refine lv_iconst (v := nI 3) hx hb d_Ru_init_20 (by decide) ?_
  have lt_6 := hP.lt h_5
  refine gm_newa (a0 := (3, .inl (iN (fun _ => 0)))) (atype := .int) hx hb (htl _ k_85) rfl 0 hK rfl rfl hP hS hA0 (fun _ => rfl) (by decide) (show (nI 3).toNatClampNeg = 3 by decide) (by decide) (by decide) (by decide) d_Ru_init_21 (fun H hP hS => ?_)
  have hP : gm_P D cls A (N + 1) (gm_up (gm_up M x (.inr (5, [.int (nI 1), .int (nI 2), .int (nI 3), .null, .null]))) N (.inl (ca 0, 3, .inl (iN (fun _ => 0))))) H := hP
  have h_7 := gm_pass (k := N) (y := .inl (ca 0, 3, .inl (iN (fun _ => 0)))) h_5 (by omega)
  have h_8 := gm_up_self (gm_up M x (.inr (5, [.int (nI 1), .int (nI 2), .int (nI 3), .null, .null]))) N (.inl (ca 0, 3, .inl (iN (fun _ => 0))))
  refine W.widen (k := 1) (n := 3) (by decide) (by decide) ?_
  refine gm_putF (C := R_Ru) (T := F_Ru) (n := 5) (ty := .array .int) hx hb htl i_Ru t_Ru tk_Ru n_Ru hown hK hP hS h_7 rfl 3 (by decide) (htl _ k_72) (fun _ h => h) rfl hnm rfl (tk_Ru 3 (by decide)) rfl rfl (Nat.le_of_ble_eq_true rfl) d_Ru_init_23 (fun H locs hP hS => ?_)
  have he_9 : gm_up (gm_up (gm_up M x (.inr (5, [.int (nI 1), .int (nI 2), .int (nI 3), .null, .null]))) N (.inl (ca 0, 3, .inl (iN (fun _ => 0))))) x (.inr (5, [.int (nI 1), .int (nI 2), .int (nI 3), .ref N, .null])) = gm_up (gm_up M x (.inr (5, [.int (nI 1), .int (nI 2), .int (nI 3), .ref N, .null]))) N (.inl (ca 0, 3, .inl (iN (fun _ => 0)))) := (gm_swap (gm_ne h_8 h_7 (fun h => by cases h))).trans (congrArg (fun Z => gm_up Z N (.inl (ca 0, 3, .inl (iN (fun _ => 0))))) (gm_up_up _ _ _ _))
  have hP := Eq.mp (congrArg (fun Z => gm_P D cls A (N + 1) Z H) he_9) hP
  have h_10 := (congrFun he_9 _).symm.trans (gm_pass (k := x) (y := .inr (5, [.int (nI 1), .int (nI 2), .int (nI 3), .ref N, .null])) h_8 (gm_ne h_8 h_7 (fun h => by cases h)))
  have h_11 := (congrFun he_9 _).symm.trans (gm_up_self (gm_up (gm_up M x (.inr (5, [.int (nI 1), .int (nI 2), .int (nI 3), .null, .null]))) N (.inl (ca 0, 3, .inl (iN (fun _ => 0))))) x (.inr (5, [.int (nI 1), .int (nI 2), .int (nI 3), .ref N, .null])))
  refine lv_aload_n hx hb d_Ru_init_26 rfl (lv_at hl 0 rfl) ?_
  refine lv_iconst (v := nI 3) hx hb d_Ru_init_27 (by decide) ?_
  have lt_12 := hP.lt h_10
  have lt_13 := hP.lt h_11
  refine gm_newa (a0 := (3, .inl (iN (fun _ => 0)))) (atype := .int) hx hb (htl _ k_85) rfl 0 hK rfl rfl hP hS hA0 (fun _ => rfl) (by decide) (show (nI 3).toNatClampNeg = 3 by decide) (by decide) (by decide) (by decide) d_Ru_init_28 (fun H hP hS => ?_)
  have hP : gm_P D cls A (N + 2) (gm_up (gm_up (gm_up M x (.inr (5, [.int (nI 1), .int (nI 2), .int (nI 3), .ref N, .null]))) N (.inl (ca 0, 3, .inl (iN (fun _ => 0))))) (N + 1) (.inl (ca 0, 3, .inl (iN (fun _ => 0))))) H := hP
  have h_14 := gm_pass (k := (N + 1)) (y := .inl (ca 0, 3, .inl (iN (fun _ => 0)))) h_10 (by omega)
  have h_15 := gm_pass (k := (N + 1)) (y := .inl (ca 0, 3, .inl (iN (fun _ => 0)))) h_11 (by omega)
  have h_16 := gm_up_self (gm_up (gm_up M x (.inr (5, [.int (nI 1), .int (nI 2), .int (nI 3), .ref N, .null]))) N (.inl (ca 0, 3, .inl (iN (fun _ => 0))))) (N + 1) (.inl (ca 0, 3, .inl (iN (fun _ => 0))))
  refine W.widen (k := 2) (n := 6) (by decide) (by decide) ?_
  refine gm_putF (C := R_Ru) (T := F_Ru) (n := 5) (ty := .array .int) hx hb htl i_Ru t_Ru tk_Ru n_Ru hown hK hP hS h_15 rfl 4 (by decide) (htl _ k_73) (fun _ h => h) rfl hnm rfl (tk_Ru 4 (by decide)) rfl rfl (Nat.le_of_ble_eq_true rfl) d_Ru_init_30 (fun H locs hP hS => ?_)
  have he_17 : gm_up (gm_up (gm_up (gm_up M x (.inr (5, [.int (nI 1), .int (nI 2), .int (nI 3), .ref N, .null]))) N (.inl (ca 0, 3, .inl (iN (fun _ => 0))))) (N + 1) (.inl (ca 0, 3, .inl (iN (fun _ => 0))))) x (.inr (5, [.int (nI 1), .int (nI 2), .int (nI 3), .ref N, .ref (N + 1)])) = gm_up (gm_up (gm_up M x (.inr (5, [.int (nI 1), .int (nI 2), .int (nI 3), .ref N, .ref (N + 1)]))) N (.inl (ca 0, 3, .inl (iN (fun _ => 0))))) (N + 1) (.inl (ca 0, 3, .inl (iN (fun _ => 0)))) := (gm_swap (gm_ne h_16 h_15 (fun h => by cases h))).trans (congrArg (fun Z => gm_up Z (N + 1) (.inl (ca 0, 3, .inl (iN (fun _ => 0))))) ((gm_swap (gm_ne h_14 h_15 (fun h => by cases h))).trans (congrArg (fun Z => gm_up Z N (.inl (ca 0, 3, .inl (iN (fun _ => 0))))) (gm_up_up _ _ _ _))))
  have hP := Eq.mp (congrArg (fun Z => gm_P D cls A (N + 2) Z H) he_17) hP
  have h_18 := (congrFun he_17 _).symm.trans (gm_pass (k := x) (y := .inr (5, [.int (nI 1), .int (nI 2), .int (nI 3), .ref N, .ref (N + 1)])) h_14 (gm_ne h_14 h_15 (fun h => by cases h)))
  have h_19 := (congrFun he_17 _).symm.trans (gm_pass (k := x) (y := .inr (5, [.int (nI 1), .int (nI 2), .int (nI 3), .ref N, .ref (N + 1)])) h_16 (gm_ne h_16 h_15 (fun h => by cases h)))
  have h_20 := (congrFun he_17 _).symm.trans (gm_up_self (gm_up (gm_up (gm_up M x (.inr (5, [.int (nI 1), .int (nI 2), .int (nI 3), .ref N, .null]))) N (.inl (ca 0, 3, .inl (iN (fun _ => 0))))) (N + 1) (.inl (ca 0, 3, .inl (iN (fun _ => 0))))) x (.inr (5, [.int (nI 1), .int (nI 2), .int (nI 3), .ref N, .ref (N + 1)])))
  exact gc_vret hx hb hr hlk hP hS d_Ru_init_33 ⟨rfl, rfl⟩
end C29
