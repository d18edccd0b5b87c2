section C12
variable {l : Launch} {D : va_G} {ca : Nat → ClassId} {A : Nat → Prop} {G : gG} {N : Nat} {M : gm_M}

set_option maxHeartbeats 4000000 in
set_option maxRecDepth 100000 in
theorem c_As_begin {x k : Nat} {a0 a1 tp a3 ac : Int32} (e1 : M x = some (.inr (0, [.int a0, .int a1, .int tp, .int a3, .int ac]))) : gC l D ca A G y_As_begin (.code y_As_begin b_As_begin 2 none) ({ frames := 0, cells := 0, slots := 0, locals := 0 }) N M [.ref x, .int (nI k)] gm_v (fun (_ : Unit) (N1 : Nat) (M1 : gm_M) => N = N1 ∧ gm_up M x (.inr (0, [.int (nI k), .int (nI 0), .int (nI 0), .int (nI 0), .int (nI 0)])) = M1) := by
  refine gm_body (by decide) (Nat.le_of_ble_eq_true rfl) (fun p e s m below meth c ls hx hb hr hts hown hlk hml hnm hP hK hN hX hS hl => ?_)
  have htl : ∀ w ∈ LW, w.before _ s = true := fun w h => hts w (List.mem_cons_of_mem _ h)
  have hown : s.vm.findClass "PacketGate$Association" = some m.cls := hown
  have hl : lv_has ls 2 [(0, .ref x), (1, .int (nI k))] := hl
  refine lv_aload_n hx hb d_As_begin_0 rfl (lv_at hl 0 rfl) ?_
  refine lv_iload_n hx hb d_As_begin_1 rfl (lv_at hl 1 rfl) ?_
  refine gm_put (C := R_As) (T := F_As) (n := 5) (ty := .int) hx hb htl i_As t_As tk_As n_As hown hK hP hS e1 rfl 0 (by decide) (htl _ k_176) (fun _ h => h) rfl (tk_As 0 (by decide)) rfl rfl (Nat.le_of_ble_eq_true rfl) d_As_begin_2 (fun H locs hP hS => ?_)
  have hP : gm_P D cls A N (gm_up M x (.inr (0, [.int (nI k), .int a1, .int tp, .int a3, .int ac]))) H := hP
  have h_1 := gm_up_self M x (.inr (0, [.int (nI k), .int a1, .int tp, .int a3, .int ac]))
  refine lv_aload_n hx hb d_As_begin_5 rfl (lv_at hl 0 rfl) ?_
  refine lv_iconst (v := nI 0) hx hb d_As_begin_6 (by decide) ?_
  refine gm_put (C := R_As) (T := F_As) (n := 5) (ty := .int) hx hb htl i_As t_As tk_As n_As hown hK hP hS h_1 rfl 1 (by decide) (htl _ k_178) (fun _ h => h) rfl (tk_As 1 (by decide)) rfl rfl (Nat.le_of_ble_eq_true rfl) d_As_begin_7 (fun H locs hP hS => ?_)
  have he_2 : gm_up (gm_up M x (.inr (0, [.int (nI k), .int a1, .int tp, .int a3, .int ac]))) x (.inr (0, [.int (nI k), .int (nI 0), .int tp, .int a3, .int ac])) = gm_up M x (.inr (0, [.int (nI k), .int (nI 0), .int tp, .int a3, .int ac])) := gm_up_up _ _ _ _
  have hP := Eq.mp (congrArg (fun Z => gm_P D cls A N Z H) he_2) hP
  have h_3 := (congrFun he_2 _).symm.trans (gm_up_self (gm_up M x (.inr (0, [.int (nI k), .int a1, .int tp, .int a3, .int ac]))) x (.inr (0, [.int (nI k), .int (nI 0), .int tp, .int a3, .int ac])))
  refine lv_aload_n hx hb d_As_begin_10 rfl (lv_at hl 0 rfl) ?_
  refine lv_iconst (v := nI 0) hx hb d_As_begin_11 (by decide) ?_
  refine gm_put (C := R_As) (T := F_As) (n := 5) (ty := .int) hx hb htl i_As t_As tk_As n_As hown hK hP hS h_3 rfl 2 (by decide) (htl _ k_180) (fun _ h => h) rfl (tk_As 2 (by decide)) rfl rfl (Nat.le_of_ble_eq_true rfl) d_As_begin_12 (fun H locs hP hS => ?_)
  have he_4 : gm_up (gm_up M x (.inr (0, [.int (nI k), .int (nI 0), .int tp, .int a3, .int ac]))) x (.inr (0, [.int (nI k), .int (nI 0), .int (nI 0), .int a3, .int ac])) = gm_up M x (.inr (0, [.int (nI k), .int (nI 0), .int (nI 0), .int a3, .int ac])) := gm_up_up _ _ _ _
  have hP := Eq.mp (congrArg (fun Z => gm_P D cls A N Z H) he_4) hP
  have h_5 := (congrFun he_4 _).symm.trans (gm_up_self (gm_up M x (.inr (0, [.int (nI k), .int (nI 0), .int tp, .int a3, .int ac]))) x (.inr (0, [.int (nI k), .int (nI 0), .int (nI 0), .int a3, .int ac])))
  refine lv_aload_n hx hb d_As_begin_15 rfl (lv_at hl 0 rfl) ?_
  refine lv_iconst (v := nI 0) hx hb d_As_begin_16 (by decide) ?_
  refine gm_put (C := R_As) (T := F_As) (n := 5) (ty := .int) hx hb htl i_As t_As tk_As n_As hown hK hP hS h_5 rfl 3 (by decide) (htl _ k_182) (fun _ h => h) rfl (tk_As 3 (by decide)) rfl rfl (Nat.le_of_ble_eq_true rfl) d_As_begin_17 (fun H locs hP hS => ?_)
  have he_6 : gm_up (gm_up M x (.inr (0, [.int (nI k), .int (nI 0), .int (nI 0), .int a3, .int ac]))) x (.inr (0, [.int (nI k), .int (nI 0), .int (nI 0), .int (nI 0), .int ac])) = gm_up M x (.inr (0, [.int (nI k), .int (nI 0), .int (nI 0), .int (nI 0), .int ac])) := gm_up_up _ _ _ _
  have hP := Eq.mp (congrArg (fun Z => gm_P D cls A N Z H) he_6) hP
  have h_7 := (congrFun he_6 _).symm.trans (gm_up_self (gm_up M x (.inr (0, [.int (nI k), .int (nI 0), .int (nI 0), .int a3, .int ac]))) x (.inr (0, [.int (nI k), .int (nI 0), .int (nI 0), .int (nI 0), .int ac])))
  refine lv_aload_n hx hb d_As_begin_20 rfl (lv_at hl 0 rfl) ?_
  refine lv_iconst (v := nI 0) hx hb d_As_begin_21 (by decide) ?_
  refine gm_put (C := R_As) (T := F_As) (n := 5) (ty := .int) hx hb htl i_As t_As tk_As n_As hown hK hP hS h_7 rfl 4 (by decide) (htl _ k_184) (fun _ h => h) rfl (tk_As 4 (by decide)) rfl rfl (Nat.le_of_ble_eq_true rfl) d_As_begin_22 (fun H locs hP hS => ?_)
  have he_8 : gm_up (gm_up M x (.inr (0, [.int (nI k), .int (nI 0), .int (nI 0), .int (nI 0), .int ac]))) x (.inr (0, [.int (nI k), .int (nI 0), .int (nI 0), .int (nI 0), .int (nI 0)])) = gm_up M x (.inr (0, [.int (nI k), .int (nI 0), .int (nI 0), .int (nI 0), .int (nI 0)])) := gm_up_up _ _ _ _
  have hP := Eq.mp (congrArg (fun Z => gm_P D cls A N Z H) he_8) hP
  have h_9 := (congrFun he_8 _).symm.trans (gm_up_self (gm_up M x (.inr (0, [.int (nI k), .int (nI 0), .int (nI 0), .int (nI 0), .int ac]))) x (.inr (0, [.int (nI k), .int (nI 0), .int (nI 0), .int (nI 0), .int (nI 0)])))
  exact gc_vret hx hb hr hlk hP hS d_As_begin_25 ⟨rfl, rfl⟩
set_option maxHeartbeats 4000000 in
set_option maxRecDepth 100000 in
theorem c_As_isReplay {x tp r0 : Nat} {a0 a1 a3 ac : Int32} (e1 : M x = some (.inr (0, [.int a0, .int a1, .int (nI tp), .int a3, .int ac]))) (ht : tp < 10000) (hr0 : r0 < 10000) : gC l D ca A G y_As_isReplay (.code y_As_isReplay b_As_isReplay 3 (some .boolean)) ({ frames := 0, cells := 0, slots := 0, locals := 0 }) N M [.ref x, .int (nI r0)] gm_i (fun (r : Int32) (N1 : Nat) (M1 : gm_M) => N = N1 ∧ (((r0 ≤ tp ∧ (32 ≤ tp - r0 ∨ ¬ (ac.toUInt32 >>> ((nI (tp - r0)).toUInt32 &&& Int32.toUInt32 31)).toInt32 &&& nI 1 = 0)) ∧ M = M1 ∧ nI 1 = r) ∨ ((tp < r0 ∨ (tp - r0 < 32 ∧ (ac.toUInt32 >>> ((nI (tp - r0)).toUInt32 &&& Int32.toUInt32 31)).toInt32 &&& nI 1 = 0)) ∧ M = M1 ∧ nI 0 = r))) := by
  refine gm_body (by decide) (Nat.le_of_ble_eq_true rfl) (fun p e s m below meth c ls hx hb hr hts hown hlk hml hnm hP hK hN hX hS hl => ?_)
  have htl : ∀ w ∈ LW, w.before _ s = true := fun w h => hts w (List.mem_cons_of_mem _ h)
  have hown : s.vm.findClass "PacketGate$Association" = some m.cls := hown
  have hl : lv_has ls 3 [(0, .ref x), (1, .int (nI r0))] := hl
  refine lv_iload_n hx hb d_As_isReplay_0 rfl (lv_at hl 1 rfl) ?_
  refine lv_aload_n hx hb d_As_isReplay_1 rfl (lv_at hl 0 rfl) ?_
  refine gm_get (C := R_As) (T := F_As) (n := 5) hx hb htl i_As hown hK hP e1 rfl 2 (by decide) (htl _ k_180) (fun _ h => h) rfl d_As_isReplay_2 ?_
  refine ln_le (tgt := 10) hx hb d_As_isReplay_5 (by decide) (by omega) (by omega) (fun c_1 => ?_) (fun c_1 => ?_)
  · skip
    refine lv_aload_n hx hb d_As_isReplay_10 rfl (lv_at hl 0 rfl) ?_
    refine gm_get (C := R_As) (T := F_As) (n := 5) hx hb htl i_As hown hK hP e1 rfl 2 (by decide) (htl _ k_180) (fun _ h => h) rfl d_As_isReplay_11 ?_
    refine lv_iload_n hx hb d_As_isReplay_14 rfl (lv_at hl 1 rfl) ?_
    refine lv_isub hx hb d_As_isReplay_15 ?_
    rw [show (nI tp) - (nI r0) = nI (tp - r0) from pk_sub (by omega)]
    refine lv_istore_n (lv' := [(2, .int (nI (tp - r0))), (0, .ref x), (1, .int (nI r0))]) hx hb d_As_isReplay_16 rfl hl (by decide) rfl (fun ls hl => ?_)
    refine lv_iload_n hx hb d_As_isReplay_17 rfl (lv_at hl 0 rfl) ?_
    refine lv_bipush (v := nI 32) hx hb d_As_isReplay_18 (by decide) ?_
    refine ln_ge (tgt := 34) hx hb d_As_isReplay_20 (by decide) (by omega) (by omega) (fun c_2 => ?_) (fun c_2 => ?_)
    · skip
      refine lv_iconst (v := nI 1) hx hb d_As_isReplay_34 (by decide) ?_
      refine lv_goto (tgt := 39) hx hb d_As_isReplay_35 (by decide) ?_
      exact gc_zret hx hb hr hlk hP hS d_As_isReplay_39 rfl (by first | exact ⟨rfl, Or.inl ⟨(by first | exact ⟨by omega, Or.inl (by omega)⟩ | exact ⟨by omega, Or.inr (by assumption)⟩), rfl, rfl⟩⟩ | exact ⟨rfl, Or.inr ⟨(by first | exact Or.inl (by omega) | exact Or.inr ⟨by omega, by assumption⟩), rfl, rfl⟩⟩)
    · skip
      refine lv_aload_n hx hb d_As_isReplay_23 rfl (lv_at hl 1 rfl) ?_
      refine gm_get (C := R_As) (T := F_As) (n := 5) hx hb htl i_As hown hK hP e1 rfl 4 (by decide) (htl _ k_184) (fun _ h => h) rfl d_As_isReplay_24 ?_
      refine lv_iload_n hx hb d_As_isReplay_27 rfl (lv_at hl 0 rfl) ?_
      refine lv_iushr hx hb d_As_isReplay_28 rfl ?_
      refine lv_iconst (v := nI 1) hx hb d_As_isReplay_29 (by decide) ?_
      refine lv_iand hx hb d_As_isReplay_30 ?_
      refine lv_if_eq (tgt := 38) hx hb d_As_isReplay_31 (by decide) (fun c_3 => ?_) (fun c_3 => ?_)
      · skip
        refine lv_iconst (v := nI 0) hx hb d_As_isReplay_38 (by decide) ?_
        exact gc_zret hx hb hr hlk hP hS d_As_isReplay_39 rfl (by first | exact ⟨rfl, Or.inl ⟨(by first | exact ⟨by omega, Or.inl (by omega)⟩ | exact ⟨by omega, Or.inr (by assumption)⟩), rfl, rfl⟩⟩ | exact ⟨rfl, Or.inr ⟨(by first | exact Or.inl (by omega) | exact Or.inr ⟨by omega, by assumption⟩), rfl, rfl⟩⟩)
      · skip
        refine lv_iconst (v := nI 1) hx hb d_As_isReplay_34 (by decide) ?_
        refine lv_goto (tgt := 39) hx hb d_As_isReplay_35 (by decide) ?_
        exact gc_zret hx hb hr hlk hP hS d_As_isReplay_39 rfl (by first | exact ⟨rfl, Or.inl ⟨(by first | exact ⟨by omega, Or.inl (by omega)⟩ | exact ⟨by omega, Or.inr (by assumption)⟩), rfl, rfl⟩⟩ | exact ⟨rfl, Or.inr ⟨(by first | exact Or.inl (by omega) | exact Or.inr ⟨by omega, by assumption⟩), rfl, rfl⟩⟩)
  · skip
    refine lv_iconst (v := nI 0) hx hb d_As_isReplay_8 (by decide) ?_
    exact gc_zret hx hb hr hlk hP hS d_As_isReplay_9 rfl (by first | exact ⟨rfl, Or.inl ⟨(by first | exact ⟨by omega, Or.inl (by omega)⟩ | exact ⟨by omega, Or.inr (by assumption)⟩), rfl, rfl⟩⟩ | exact ⟨rfl, Or.inr ⟨(by first | exact Or.inl (by omega) | exact Or.inr ⟨by omega, by assumption⟩), rfl, rfl⟩⟩)
set_option maxHeartbeats 4000000 in
set_option maxRecDepth 100000 in
theorem c_As_accept {x tp r0 : Nat} {a0 a1 a3 ac : Int32} (e1 : M x = some (.inr (0, [.int a0, .int a1, .int (nI tp), .int a3, .int ac]))) (ht : tp < 10000) (hr0 : r0 < 10000) : gC l D ca A G y_As_accept (.code y_As_accept b_As_accept 3 none) ({ frames := 0, cells := 0, slots := 0, locals := 0 }) N M [.ref x, .int (nI r0)] gm_v (fun (_ : Unit) (N1 : Nat) (M1 : gm_M) => N = N1 ∧ (((tp < r0) ∧ (r0 - tp < 32) ∧ gm_up M x (.inr (0, [.int a0, .int a1, .int (nI r0), .int a3, .int (ac <<< (nI (r0 - tp) &&& 31) ||| nI 1)])) = M1) ∨ ((tp < r0) ∧ (32 ≤ r0 - tp) ∧ gm_up M x (.inr (0, [.int a0, .int a1, .int (nI r0), .int a3, .int (nI 1)])) = M1) ∨ ((r0 ≤ tp) ∧ gm_up M x (.inr (0, [.int a0, .int a1, .int (nI tp), .int a3, .int (ac ||| nI 1 <<< (nI (tp - r0) &&& 31))])) = M1))) := by
  refine gm_body (by decide) (Nat.le_of_ble_eq_true rfl) (fun p e s m below meth c ls hx hb hr hts hown hlk hml hnm hP hK hN hX hS hl => ?_)
  have htl : ∀ w ∈ LW, w.before _ s = true := fun w h => hts w (List.mem_cons_of_mem _ h)
  have hown : s.vm.findClass "PacketGate$Association" = some m.cls := hown
  have hl : lv_has ls 3 [(0, .ref x), (1, .int (nI r0))] := hl
  refine lv_iload_n hx hb d_As_accept_0 rfl (lv_at hl 1 rfl) ?_
  refine lv_aload_n hx hb d_As_accept_1 rfl (lv_at hl 0 rfl) ?_
  refine gm_get (C := R_As) (T := F_As) (n := 5) hx hb htl i_As hown hK hP e1 rfl 2 (by decide) (htl _ k_180) (fun _ h => h) rfl d_As_accept_2 ?_
  refine ln_le (tgt := 45) hx hb d_As_accept_5 (by decide) (by omega) (by omega) (fun c_1 => ?_) (fun c_1 => ?_)
  · skip
    refine lv_aload_n hx hb d_As_accept_45 rfl (lv_at hl 0 rfl) ?_
    refine lv_aload_n hx hb d_As_accept_46 rfl (lv_at hl 0 rfl) ?_
    refine gm_get (C := R_As) (T := F_As) (n := 5) hx hb htl i_As hown hK hP e1 rfl 4 (by decide) (htl _ k_184) (fun _ h => h) rfl d_As_accept_47 ?_
    refine lv_iconst (v := nI 1) hx hb d_As_accept_50 (by decide) ?_
    refine lv_aload_n hx hb d_As_accept_51 rfl (lv_at hl 0 rfl) ?_
    refine gm_get (C := R_As) (T := F_As) (n := 5) hx hb htl i_As hown hK hP e1 rfl 2 (by decide) (htl _ k_180) (fun _ h => h) rfl d_As_accept_52 ?_
    refine lv_iload_n hx hb d_As_accept_55 rfl (lv_at hl 1 rfl) ?_
    refine lv_isub hx hb d_As_accept_56 ?_
    rw [show (nI tp) - (nI r0) = nI (tp - r0) from pk_sub (by omega)]
    refine lv_ishl hx hb d_As_accept_57 ?_
    refine lv_ior hx hb d_As_accept_58 ?_
    refine gm_put (C := R_As) (T := F_As) (n := 5) (ty := .int) hx hb htl i_As t_As tk_As n_As hown hK hP hS e1 rfl 4 (by decide) (htl _ k_184) (fun _ h => h) rfl (tk_As 4 (by decide)) rfl rfl (Nat.le_of_ble_eq_true rfl) d_As_accept_59 (fun H locs hP hS => ?_)
    have hP : gm_P D cls A N (gm_up M x (.inr (0, [.int a0, .int a1, .int (nI tp), .int a3, .int (ac ||| ((nI 1) <<< ((nI (tp - r0)) &&& 31)))]))) H := hP
    have h_2 := gm_up_self M x (.inr (0, [.int a0, .int a1, .int (nI tp), .int a3, .int (ac ||| ((nI 1) <<< ((nI (tp - r0)) &&& 31)))]))
    exact gc_vret hx hb hr hlk hP hS d_As_accept_62 (by first | exact ⟨rfl, Or.inl ⟨(by first | assumption | omega), (by first | assumption | omega), rfl⟩⟩ | exact ⟨rfl, Or.inr (Or.inl ⟨(by first | assumption | omega), (by first | assumption | omega), rfl⟩)⟩ | exact ⟨rfl, Or.inr (Or.inr ⟨(by first | assumption | omega), rfl⟩)⟩)
  · skip
    refine lv_iload_n hx hb d_As_accept_8 rfl (lv_at hl 1 rfl) ?_
    refine lv_aload_n hx hb d_As_accept_9 rfl (lv_at hl 0 rfl) ?_
    refine gm_get (C := R_As) (T := F_As) (n := 5) hx hb htl i_As hown hK hP e1 rfl 2 (by decide) (htl _ k_180) (fun _ h => h) rfl d_As_accept_10 ?_
    refine lv_isub hx hb d_As_accept_13 ?_
    rw [show (nI r0) - (nI tp) = nI (r0 - tp) from pk_sub (by omega)]
    refine lv_istore_n (lv' := [(2, .int (nI (r0 - tp))), (0, .ref x), (1, .int (nI r0))]) hx hb d_As_accept_14 rfl hl (by decide) rfl (fun ls hl => ?_)
    refine lv_aload_n hx hb d_As_accept_15 rfl (lv_at hl 1 rfl) ?_
    refine lv_iload_n hx hb d_As_accept_16 rfl (lv_at hl 0 rfl) ?_
    refine lv_bipush (v := nI 32) hx hb d_As_accept_17 (by decide) ?_
    refine ln_ge (tgt := 33) hx hb d_As_accept_19 (by decide) (by omega) (by omega) (fun c_3 => ?_) (fun c_3 => ?_)
    · skip
      refine lv_iconst (v := nI 1) hx hb d_As_accept_33 (by decide) ?_
      refine gm_put (C := R_As) (T := F_As) (n := 5) (ty := .int) hx hb htl i_As t_As tk_As n_As hown hK hP hS e1 rfl 4 (by decide) (htl _ k_184) (fun _ h => h) rfl (tk_As 4 (by decide)) rfl rfl (Nat.le_of_ble_eq_true rfl) d_As_accept_34 (fun H locs hP hS => ?_)
      have hP : gm_P D cls A N (gm_up M x (.inr (0, [.int a0, .int a1, .int (nI tp), .int a3, .int (nI 1)]))) H := hP
      have h_4 := gm_up_self M x (.inr (0, [.int a0, .int a1, .int (nI tp), .int a3, .int (nI 1)]))
      refine lv_aload_n hx hb d_As_accept_37 rfl (lv_at hl 1 rfl) ?_
      refine lv_iload_n hx hb d_As_accept_38 rfl (lv_at hl 2 rfl) ?_
      refine gm_put (C := R_As) (T := F_As) (n := 5) (ty := .int) hx hb htl i_As t_As tk_As n_As hown hK hP hS h_4 rfl 2 (by decide) (htl _ k_180) (fun _ h => h) rfl (tk_As 2 (by decide)) rfl rfl (Nat.le_of_ble_eq_true rfl) d_As_accept_39 (fun H locs hP hS => ?_)
      have he_5 : gm_up (gm_up M x (.inr (0, [.int a0, .int a1, .int (nI tp), .int a3, .int (nI 1)]))) x (.inr (0, [.int a0, .int a1, .int (nI r0), .int a3, .int (nI 1)])) = gm_up M x (.inr (0, [.int a0, .int a1, .int (nI r0), .int a3, .int (nI 1)])) := gm_up_up _ _ _ _
      have hP := Eq.mp (congrArg (fun Z => gm_P D cls A N Z H) he_5) hP
      have h_6 := (congrFun he_5 _).symm.trans (gm_up_self (gm_up M x (.inr (0, [.int a0, .int a1, .int (nI tp), .int a3, .int (nI 1)]))) x (.inr (0, [.int a0, .int a1, .int (nI r0), .int a3, .int (nI 1)])))
      refine lv_goto (tgt := 62) hx hb d_As_accept_42 (by decide) ?_
      exact gc_vret hx hb hr hlk hP hS d_As_accept_62 (by first | exact ⟨rfl, Or.inl ⟨(by first | assumption | omega), (by first | assumption | omega), rfl⟩⟩ | exact ⟨rfl, Or.inr (Or.inl ⟨(by first | assumption | omega), (by first | assumption | omega), rfl⟩)⟩ | exact ⟨rfl, Or.inr (Or.inr ⟨(by first | assumption | omega), rfl⟩)⟩)
    · skip
      refine lv_aload_n hx hb d_As_accept_22 rfl (lv_at hl 1 rfl) ?_
      refine gm_get (C := R_As) (T := F_As) (n := 5) hx hb htl i_As hown hK hP e1 rfl 4 (by decide) (htl _ k_184) (fun _ h => h) rfl d_As_accept_23 ?_
      refine lv_iload_n hx hb d_As_accept_26 rfl (lv_at hl 0 rfl) ?_
      refine lv_ishl hx hb d_As_accept_27 ?_
      refine lv_iconst (v := nI 1) hx hb d_As_accept_28 (by decide) ?_
      refine lv_ior hx hb d_As_accept_29 ?_
      refine lv_goto (tgt := 34) hx hb d_As_accept_30 (by decide) ?_
      refine gm_put (C := R_As) (T := F_As) (n := 5) (ty := .int) hx hb htl i_As t_As tk_As n_As hown hK hP hS e1 rfl 4 (by decide) (htl _ k_184) (fun _ h => h) rfl (tk_As 4 (by decide)) rfl rfl (Nat.le_of_ble_eq_true rfl) d_As_accept_34 (fun H locs hP hS => ?_)
      have hP : gm_P D cls A N (gm_up M x (.inr (0, [.int a0, .int a1, .int (nI tp), .int a3, .int ((ac <<< ((nI (r0 - tp)) &&& 31)) ||| (nI 1))]))) H := hP
      have h_7 := gm_up_self M x (.inr (0, [.int a0, .int a1, .int (nI tp), .int a3, .int ((ac <<< ((nI (r0 - tp)) &&& 31)) ||| (nI 1))]))
      refine lv_aload_n hx hb d_As_accept_37 rfl (lv_at hl 1 rfl) ?_
      refine lv_iload_n hx hb d_As_accept_38 rfl (lv_at hl 2 rfl) ?_
      refine gm_put (C := R_As) (T := F_As) (n := 5) (ty := .int) hx hb htl i_As t_As tk_As n_As hown hK hP hS h_7 rfl 2 (by decide) (htl _ k_180) (fun _ h => h) rfl (tk_As 2 (by decide)) rfl rfl (Nat.le_of_ble_eq_true rfl) d_As_accept_39 (fun H locs hP hS => ?_)
      have he_8 : gm_up (gm_up M x (.inr (0, [.int a0, .int a1, .int (nI tp), .int a3, .int ((ac <<< ((nI (r0 - tp)) &&& 31)) ||| (nI 1))]))) x (.inr (0, [.int a0, .int a1, .int (nI r0), .int a3, .int ((ac <<< ((nI (r0 - tp)) &&& 31)) ||| (nI 1))])) = gm_up M x (.inr (0, [.int a0, .int a1, .int (nI r0), .int a3, .int ((ac <<< ((nI (r0 - tp)) &&& 31)) ||| (nI 1))])) := gm_up_up _ _ _ _
      have hP := Eq.mp (congrArg (fun Z => gm_P D cls A N Z H) he_8) hP
      have h_9 := (congrFun he_8 _).symm.trans (gm_up_self (gm_up M x (.inr (0, [.int a0, .int a1, .int (nI tp), .int a3, .int ((ac <<< ((nI (r0 - tp)) &&& 31)) ||| (nI 1))]))) x (.inr (0, [.int a0, .int a1, .int (nI r0), .int a3, .int ((ac <<< ((nI (r0 - tp)) &&& 31)) ||| (nI 1))])))
      refine lv_goto (tgt := 62) hx hb d_As_accept_42 (by decide) ?_
      exact gc_vret hx hb hr hlk hP hS d_As_accept_62 (by first | exact ⟨rfl, Or.inl ⟨(by first | assumption | omega), (by first | assumption | omega), rfl⟩⟩ | exact ⟨rfl, Or.inr (Or.inl ⟨(by first | assumption | omega), (by first | assumption | omega), rfl⟩)⟩ | exact ⟨rfl, Or.inr (Or.inr ⟨(by first | assumption | omega), rfl⟩)⟩)
set_option maxHeartbeats 4000000 in
set_option maxRecDepth 100000 in
theorem c_Ex_isFull {x p0 q0 i0 n : Nat} {pp po pi : Nat → Nat} (e1 : M x = some (.inr (1, [.ref p0, .ref q0, .ref i0, .int (nI n)]))) (e2 : M p0 = some (.inl (ca 0, 4, .inl (iN pp)))) (e3 : M q0 = some (.inl (ca 0, 4, .inl (iN po)))) (e4 : M i0 = some (.inl (ca 0, 4, .inl (iN pi)))) (hn : n ≤ 4) (hpp : ∀ k, pp k < 65536) (hpo : ∀ k, po k < 65536) (hpi : ∀ k, pi k < 65536) : gC l D ca A G y_Ex_isFull (.code y_Ex_isFull b_Ex_isFull 1 (some .boolean)) ({ frames := 0, cells := 0, slots := 0, locals := 0 }) N M [.ref x] gm_i (fun (r : Int32) (N1 : Nat) (M1 : gm_M) => N = N1 ∧ (((n = 4) ∧ M = M1 ∧ nI 1 = r) ∨ ((n < 4) ∧ M = M1 ∧ nI 0 = r))) := by
  refine gm_body (by decide) (Nat.le_of_ble_eq_true rfl) (fun p e s m below meth c ls hx hb hr hts hown hlk hml hnm hP hK hN hX hS hl => ?_)
  have htl : ∀ w ∈ LW, w.before _ s = true := fun w h => hts w (List.mem_cons_of_mem _ h)
  have hown : s.vm.findClass "PacketGate$Exposures" = some m.cls := hown
  have hl : lv_has ls 1 [(0, .ref x)] := hl
  refine lv_aload_n hx hb d_Ex_isFull_0 rfl (lv_at hl 0 rfl) ?_
  refine gm_get (C := R_Ex) (T := F_Ex) (n := 4) hx hb htl i_Ex hown hK hP e1 rfl 3 (by decide) (htl _ k_103) (fun _ h => h) rfl d_Ex_isFull_1 ?_
  refine lv_iconst (v := nI 4) hx hb d_Ex_isFull_4 (by decide) ?_
  refine ln_lt (tgt := 12) hx hb d_Ex_isFull_5 (by decide) (by omega) (by omega) (fun c_1 => ?_) (fun c_1 => ?_)
  · skip
    refine lv_iconst (v := nI 0) hx hb d_Ex_isFull_12 (by decide) ?_
    exact gc_zret hx hb hr hlk hP hS d_Ex_isFull_13 rfl (by first | exact ⟨rfl, Or.inl ⟨(by first | assumption | omega), rfl, rfl⟩⟩ | exact ⟨rfl, Or.inr ⟨(by first | assumption | omega), rfl, rfl⟩⟩)
  · skip
    refine lv_iconst (v := nI 1) hx hb d_Ex_isFull_8 (by decide) ?_
    refine lv_goto (tgt := 13) hx hb d_Ex_isFull_9 (by decide) ?_
    exact gc_zret hx hb hr hlk hP hS d_Ex_isFull_13 rfl (by first | exact ⟨rfl, Or.inl ⟨(by first | assumption | omega), rfl, rfl⟩⟩ | exact ⟨rfl, Or.inr ⟨(by first | assumption | omega), rfl, rfl⟩⟩)
set_option maxHeartbeats 4000000 in
set_option maxRecDepth 100000 in
theorem c_Ex_find {x p0 q0 i0 n : Nat} {pp po pi : Nat → Nat} {a b : Nat} (e1 : M x = some (.inr (1, [.ref p0, .ref q0, .ref i0, .int (nI n)]))) (e2 : M p0 = some (.inl (ca 0, 4, .inl (iN pp)))) (e3 : M q0 = some (.inl (ca 0, 4, .inl (iN po)))) (e4 : M i0 = some (.inl (ca 0, 4, .inl (iN pi)))) (hn : n ≤ 4) (hpp : ∀ k, pp k < 65536) (hpo : ∀ k, po k < 65536) (hpi : ∀ k, pi k < 65536) (ha : a < 65536) (hb0 : b < 65536) : gC l D ca A G y_Ex_find (.code y_Ex_find b_Ex_find 4 (some .int)) ({ frames := 0, cells := 0, slots := 0, locals := 0 }) N M [.ref x, .int (nI a), .int (nI b)] gm_i (fun (r : Int32) (N1 : Nat) (M1 : gm_M) => N = N1 ∧ ((∃ (k : Nat), (k < n) ∧ (pp k = a ∧ po k = b) ∧ (∀ j, j < k → ¬ (pp j = a ∧ po j = b)) ∧ M = M1 ∧ nI k = r) ∨ ((∀ j, j < n → ¬ (pp j = a ∧ po j = b)) ∧ M = M1 ∧ (-1) = r))) := by
  refine gm_body (by decide) (Nat.le_of_ble_eq_true rfl) (fun p e s m below meth c ls hx hb hr hts hown hlk hml hnm hP hK hN hX hS hl => ?_)
  have htl : ∀ w ∈ LW, w.before _ s = true := fun w h => hts w (List.mem_cons_of_mem _ h)
  have hown : s.vm.findClass "PacketGate$Exposures" = some m.cls := hown
  have hl : lv_has ls 4 [(0, .ref x), (1, .int (nI a)), (2, .int (nI b))] := hl
  generalize hQ : MQ below _ _ s _ _ A = Q
  refine lv_iconst (v := nI 0) hx hb d_Ex_find_0 (by decide) ?_
  refine lv_istore_n (lv' := [(3, .int (nI 0)), (0, .ref x), (1, .int (nI a)), (2, .int (nI b))]) hx hb d_Ex_find_1 rfl hl (by decide) rfl (fun ls hl => ?_)
  have loop_2 : ∀ (fu : Nat) (i : Nat) (ls : Array Slot) (H : Heap) (locs : List Loc), (i ≤ n) → (∀ j, j < i → ¬ (pp j = a ∧ po j = b)) → (n - i) < fu → gm_P D cls A N M H → va_S A s.heap H locs → lv_has ls 4 [(0, .ref x), (1, .int (nI a)), (2, .int (nI b)), (3, .int (nI i))] → W p l e ({ frames := 0, cells := 0, slots := 0, locals := 0 }) s m ([.ref x, .int (nI a), .int (nI b)] : List Value).toArray below meth c H locs (0) (0) Q (F0 m 2 ls []) := by
    intro fu
    induction fu with
    | zero => intro i ls H locs hi hno hk; exact absurd hk (Nat.not_lt_zero _)
    | succ fu ih_2 =>
      intro i ls H locs hi hno hk hP hS hl
      refine lv_iload_n hx hb d_Ex_find_2 rfl (lv_at hl 3 rfl) ?_
      refine lv_aload_n hx hb d_Ex_find_3 rfl (lv_at hl 0 rfl) ?_
      refine gm_get (C := R_Ex) (T := F_Ex) (n := 4) hx hb htl i_Ex hown hK hP e1 rfl 3 (by decide) (htl _ k_103) (fun _ h => h) rfl d_Ex_find_4 ?_
      refine ln_ge (tgt := 38) hx hb d_Ex_find_7 (by decide) (by omega) (by omega) (fun c_1 => ?_) (fun c_1 => ?_)
      · skip
        refine lv_iconst (v := (-1)) hx hb d_Ex_find_38 (by decide) ?_
        rw [← hQ]
        exact gc_iret hx hb hr hlk hP hS d_Ex_find_39 ⟨rfl, Or.inr ⟨fun j hj => hno j (by omega), rfl, rfl⟩⟩
      · skip
        refine lv_aload_n hx hb d_Ex_find_10 rfl (lv_at hl 0 rfl) ?_
        refine gm_get (C := R_Ex) (T := F_Ex) (n := 4) hx hb htl i_Ex hown hK hP e1 rfl 0 (by decide) (htl _ k_100) (fun _ h => h) rfl d_Ex_find_11 ?_
        refine lv_iload_n hx hb d_Ex_find_14 rfl (lv_at hl 3 rfl) ?_
        refine gz_iald hx hb hK hP 0 e2 rfl (by omega) (by omega) d_Ex_find_15 ?_
        have b_2 := hpp i
        refine lv_iload_n hx hb d_Ex_find_16 rfl (lv_at hl 1 rfl) ?_
        refine ln_ne (tgt := 32) hx hb d_Ex_find_17 (by decide) (by omega) (by omega) (fun c_3 => ?_) (fun c_3 => ?_)
        · skip
          refine lv_iinc (v := nI (i + 1)) (lv' := [(3, .int (nI (i + 1))), (0, .ref x), (1, .int (nI a)), (2, .int (nI b))]) hx hb d_Ex_find_32 hl (k := 3) rfl (nI_1 i) (by decide) rfl (fun ls hl => ?_)
          refine lv_goto (tgt := 2) hx hb d_Ex_find_35 (by decide) ?_
          exact ih_2 (i + 1) ls _ _ (by omega) (fun j hj => by rcases Nat.lt_succ_iff_lt_or_eq.mp hj with z | z; exact hno j z; subst z; first | exact fun z => c_3 z.1 | exact fun z => c_3 z.2) (by omega) hP hS (lv_sub hl [1, 2, 3, 0] rfl)
        · skip
          refine lv_aload_n hx hb d_Ex_find_20 rfl (lv_at hl 0 rfl) ?_
          refine gm_get (C := R_Ex) (T := F_Ex) (n := 4) hx hb htl i_Ex hown hK hP e1 rfl 1 (by decide) (htl _ k_101) (fun _ h => h) rfl d_Ex_find_21 ?_
          refine lv_iload_n hx hb d_Ex_find_24 rfl (lv_at hl 3 rfl) ?_
          refine gz_iald hx hb hK hP 0 e3 rfl (by omega) (by omega) d_Ex_find_25 ?_
          have b_4 := hpo i
          refine lv_iload_n hx hb d_Ex_find_26 rfl (lv_at hl 2 rfl) ?_
          refine ln_ne (tgt := 32) hx hb d_Ex_find_27 (by decide) (by omega) (by omega) (fun c_5 => ?_) (fun c_5 => ?_)
          · skip
            refine lv_iinc (v := nI (i + 1)) (lv' := [(3, .int (nI (i + 1))), (0, .ref x), (1, .int (nI a)), (2, .int (nI b))]) hx hb d_Ex_find_32 hl (k := 3) rfl (nI_1 i) (by decide) rfl (fun ls hl => ?_)
            refine lv_goto (tgt := 2) hx hb d_Ex_find_35 (by decide) ?_
            exact ih_2 (i + 1) ls _ _ (by omega) (fun j hj => by rcases Nat.lt_succ_iff_lt_or_eq.mp hj with z | z; exact hno j z; subst z; first | exact fun z => c_5 z.1 | exact fun z => c_5 z.2) (by omega) hP hS (lv_sub hl [1, 2, 3, 0] rfl)
          · skip
            refine lv_iload_n hx hb d_Ex_find_30 rfl (lv_at hl 3 rfl) ?_
            rw [← hQ]
            exact gc_iret hx hb hr hlk hP hS d_Ex_find_31 ⟨rfl, Or.inl ⟨i, by omega, ⟨by assumption, by assumption⟩, hno, rfl, rfl⟩⟩
  exact loop_2 (_ + 1) 0 ls _ _ (Nat.zero_le _) (fun j hj => absurd hj (Nat.not_lt_zero _)) (Nat.lt_succ_self _) hP hS (lv_sub hl [1, 2, 3, 0] rfl)
set_option maxHeartbeats 4000000 in
set_option maxRecDepth 100000 in
theorem c_Ex_findI (a b : Int32) {x p0 q0 i0 n : Nat} {pp po pi : Nat → Nat} (e1 : M x = some (.inr (1, [.ref p0, .ref q0, .ref i0, .int (nI n)]))) (e2 : M p0 = some (.inl (ca 0, 4, .inl (iN pp)))) (e3 : M q0 = some (.inl (ca 0, 4, .inl (iN po)))) (e4 : M i0 = some (.inl (ca 0, 4, .inl (iN pi)))) (hn : n ≤ 4) (hpp : ∀ k, pp k < 65536) (hpo : ∀ k, po k < 65536) (hpi : ∀ k, pi k < 65536) : gC l D ca A G y_Ex_find (.code y_Ex_find b_Ex_find 4 (some .int)) ({ frames := 0, cells := 0, slots := 0, locals := 0 }) N M [.ref x, .int a, .int b] gm_i (fun (r : Int32) (N1 : Nat) (M1 : gm_M) => N = N1 ∧ ((∃ (k : Nat), (k < n) ∧ (nI (pp k) = a ∧ nI (po k) = b) ∧ (∀ j, j < k → ¬ (nI (pp j) = a ∧ nI (po j) = b)) ∧ M = M1 ∧ nI k = r) ∨ ((∀ j, j < n → ¬ (nI (pp j) = a ∧ nI (po j) = b)) ∧ M = M1 ∧ (-1) = r))) := by
  refine gm_body (by decide) (Nat.le_of_ble_eq_true rfl) (fun p e s m below meth c ls hx hb hr hts hown hlk hml hnm hP hK hN hX hS hl => ?_)
  have htl : ∀ w ∈ LW, w.before _ s = true := fun w h => hts w (List.mem_cons_of_mem _ h)
  have hown : s.vm.findClass "PacketGate$Exposures" = some m.cls := hown
  have hl : lv_has ls 4 [(0, .ref x), (1, .int a), (2, .int b)] := hl
  generalize hQ : MQ below _ _ s _ _ A = Q
  refine lv_iconst (v := nI 0) hx hb d_Ex_find_0 (by decide) ?_
  refine lv_istore_n (lv' := [(3, .int (nI 0)), (0, .ref x), (1, .int a), (2, .int b)]) hx hb d_Ex_find_1 rfl hl (by decide) rfl (fun ls hl => ?_)
  have loop_2 : ∀ (fu : Nat) (i : Nat) (ls : Array Slot) (H : Heap) (locs : List Loc), (i ≤ n) → (∀ j, j < i → ¬ (nI (pp j) = a ∧ nI (po j) = b)) → (n - i) < fu → gm_P D cls A N M H → va_S A s.heap H locs → lv_has ls 4 [(0, .ref x), (1, .int a), (2, .int b), (3, .int (nI i))] → W p l e ({ frames := 0, cells := 0, slots := 0, locals := 0 }) s m ([.ref x, .int a, .int b] : List Value).toArray below meth c H locs (0) (0) Q (F0 m 2 ls []) := by
    intro fu
    induction fu with
    | zero => intro i ls H locs hi hno hk; exact absurd hk (Nat.not_lt_zero _)
    | succ fu ih_2 =>
      intro i ls H locs hi hno hk hP hS hl
      refine lv_iload_n hx hb d_Ex_find_2 rfl (lv_at hl 3 rfl) ?_
      refine lv_aload_n hx hb d_Ex_find_3 rfl (lv_at hl 0 rfl) ?_
      refine gm_get (C := R_Ex) (T := F_Ex) (n := 4) hx hb htl i_Ex hown hK hP e1 rfl 3 (by decide) (htl _ k_103) (fun _ h => h) rfl d_Ex_find_4 ?_
      refine ln_ge (tgt := 38) hx hb d_Ex_find_7 (by decide) (by omega) (by omega) (fun c_1 => ?_) (fun c_1 => ?_)
      · skip
        refine lv_iconst (v := (-1)) hx hb d_Ex_find_38 (by decide) ?_
        rw [← hQ]
        exact gc_iret hx hb hr hlk hP hS d_Ex_find_39 ⟨rfl, Or.inr ⟨fun j hj => hno j (by omega), rfl, rfl⟩⟩
      · skip
        refine lv_aload_n hx hb d_Ex_find_10 rfl (lv_at hl 0 rfl) ?_
        refine gm_get (C := R_Ex) (T := F_Ex) (n := 4) hx hb htl i_Ex hown hK hP e1 rfl 0 (by decide) (htl _ k_100) (fun _ h => h) rfl d_Ex_find_11 ?_
        refine lv_iload_n hx hb d_Ex_find_14 rfl (lv_at hl 3 rfl) ?_
        refine gz_iald hx hb hK hP 0 e2 rfl (by omega) (by omega) d_Ex_find_15 ?_
        have b_2 := hpp i
        refine lv_iload_n hx hb d_Ex_find_16 rfl (lv_at hl 1 rfl) ?_
        refine lv_icmp_ne (tgt := 32) hx hb d_Ex_find_17 (by decide) (fun c_3 => ?_) (fun c_3 => ?_)
        · skip
          refine lv_iinc (v := nI (i + 1)) (lv' := [(3, .int (nI (i + 1))), (0, .ref x), (1, .int a), (2, .int b)]) hx hb d_Ex_find_32 hl (k := 3) rfl (nI_1 i) (by decide) rfl (fun ls hl => ?_)
          refine lv_goto (tgt := 2) hx hb d_Ex_find_35 (by decide) ?_
          exact ih_2 (i + 1) ls _ _ (by omega) (fun j hj => by rcases Nat.lt_succ_iff_lt_or_eq.mp hj with z | z; exact hno j z; subst z; first | exact fun z => c_3 z.1 | exact fun z => c_3 z.2) (by omega) hP hS (lv_sub hl [1, 2, 3, 0] rfl)
        · skip
          refine lv_aload_n hx hb d_Ex_find_20 rfl (lv_at hl 0 rfl) ?_
          refine gm_get (C := R_Ex) (T := F_Ex) (n := 4) hx hb htl i_Ex hown hK hP e1 rfl 1 (by decide) (htl _ k_101) (fun _ h => h) rfl d_Ex_find_21 ?_
          refine lv_iload_n hx hb d_Ex_find_24 rfl (lv_at hl 3 rfl) ?_
          refine gz_iald hx hb hK hP 0 e3 rfl (by omega) (by omega) d_Ex_find_25 ?_
          have b_4 := hpo i
          refine lv_iload_n hx hb d_Ex_find_26 rfl (lv_at hl 2 rfl) ?_
          refine lv_icmp_ne (tgt := 32) hx hb d_Ex_find_27 (by decide) (fun c_5 => ?_) (fun c_5 => ?_)
          · skip
            refine lv_iinc (v := nI (i + 1)) (lv' := [(3, .int (nI (i + 1))), (0, .ref x), (1, .int a), (2, .int b)]) hx hb d_Ex_find_32 hl (k := 3) rfl (nI_1 i) (by decide) rfl (fun ls hl => ?_)
            refine lv_goto (tgt := 2) hx hb d_Ex_find_35 (by decide) ?_
            exact ih_2 (i + 1) ls _ _ (by omega) (fun j hj => by rcases Nat.lt_succ_iff_lt_or_eq.mp hj with z | z; exact hno j z; subst z; first | exact fun z => c_5 z.1 | exact fun z => c_5 z.2) (by omega) hP hS (lv_sub hl [1, 2, 3, 0] rfl)
          · skip
            refine lv_iload_n hx hb d_Ex_find_30 rfl (lv_at hl 3 rfl) ?_
            rw [← hQ]
            exact gc_iret hx hb hr hlk hP hS d_Ex_find_31 ⟨rfl, Or.inl ⟨i, by omega, ⟨by assumption, by assumption⟩, hno, rfl, rfl⟩⟩
  exact loop_2 (_ + 1) 0 ls _ _ (Nat.zero_le _) (fun j hj => absurd hj (Nat.not_lt_zero _)) (Nat.lt_succ_self _) hP hS (lv_sub hl [1, 2, 3, 0] rfl)
set_option maxHeartbeats 4000000 in
set_option maxRecDepth 100000 in
theorem c_Ex_portOfInside {x p0 q0 i0 n : Nat} {pp po pi : Nat → Nat} {a b : Nat} (e1 : M x = some (.inr (1, [.ref p0, .ref q0, .ref i0, .int (nI n)]))) (e2 : M p0 = some (.inl (ca 0, 4, .inl (iN pp)))) (e3 : M q0 = some (.inl (ca 0, 4, .inl (iN po)))) (e4 : M i0 = some (.inl (ca 0, 4, .inl (iN pi)))) (hn : n ≤ 4) (hpp : ∀ k, pp k < 65536) (hpo : ∀ k, po k < 65536) (hpi : ∀ k, pi k < 65536) (ha : a < 65536) (hb0 : b < 65536) : gC l D ca A G y_Ex_portOfInside (.code y_Ex_portOfInside b_Ex_portOfInside 4 (some .int)) ({ frames := 0, cells := 0, slots := 0, locals := 0 }) N M [.ref x, .int (nI a), .int (nI b)] gm_i (fun (r : Int32) (N1 : Nat) (M1 : gm_M) => N = N1 ∧ ((∃ (k : Nat), (k < n) ∧ (pp k = a ∧ pi k = b) ∧ (∀ j, j < k → ¬ (pp j = a ∧ pi j = b)) ∧ M = M1 ∧ nI (po k) = r) ∨ ((∀ j, j < n → ¬ (pp j = a ∧ pi j = b)) ∧ M = M1 ∧ (-1) = r))) := by
  refine gm_body (by decide) (Nat.le_of_ble_eq_true rfl) (fun p e s m below meth c ls hx hb hr hts hown hlk hml hnm hP hK hN hX hS hl => ?_)
  have htl : ∀ w ∈ LW, w.before _ s = true := fun w h => hts w (List.mem_cons_of_mem _ h)
  have hown : s.vm.findClass "PacketGate$Exposures" = some m.cls := hown
  have hl : lv_has ls 4 [(0, .ref x), (1, .int (nI a)), (2, .int (nI b))] := hl
  generalize hQ : MQ below _ _ s _ _ A = Q
  refine lv_iconst (v := nI 0) hx hb d_Ex_portOfInside_0 (by decide) ?_
  refine lv_istore_n (lv' := [(3, .int (nI 0)), (0, .ref x), (1, .int (nI a)), (2, .int (nI b))]) hx hb d_Ex_portOfInside_1 rfl hl (by decide) rfl (fun ls hl => ?_)
  have loop_2 : ∀ (fu : Nat) (i : Nat) (ls : Array Slot) (H : Heap) (locs : List Loc), (i ≤ n) → (∀ j, j < i → ¬ (pp j = a ∧ pi j = b)) → (n - i) < fu → gm_P D cls A N M H → va_S A s.heap H locs → lv_has ls 4 [(0, .ref x), (1, .int (nI a)), (2, .int (nI b)), (3, .int (nI i))] → W p l e ({ frames := 0, cells := 0, slots := 0, locals := 0 }) s m ([.ref x, .int (nI a), .int (nI b)] : List Value).toArray below meth c H locs (0) (0) Q (F0 m 2 ls []) := by
    intro fu
    induction fu with
    | zero => intro i ls H locs hi hno hk; exact absurd hk (Nat.not_lt_zero _)
    | succ fu ih_2 =>
      intro i ls H locs hi hno hk hP hS hl
      refine lv_iload_n hx hb d_Ex_portOfInside_2 rfl (lv_at hl 3 rfl) ?_
      refine lv_aload_n hx hb d_Ex_portOfInside_3 rfl (lv_at hl 0 rfl) ?_
      refine gm_get (C := R_Ex) (T := F_Ex) (n := 4) hx hb htl i_Ex hown hK hP e1 rfl 3 (by decide) (htl _ k_103) (fun _ h => h) rfl d_Ex_portOfInside_4 ?_
      refine ln_ge (tgt := 43) hx hb d_Ex_portOfInside_7 (by decide) (by omega) (by omega) (fun c_1 => ?_) (fun c_1 => ?_)
      · skip
        refine lv_iconst (v := (-1)) hx hb d_Ex_portOfInside_43 (by decide) ?_
        rw [← hQ]
        exact gc_iret hx hb hr hlk hP hS d_Ex_portOfInside_44 ⟨rfl, Or.inr ⟨fun j hj => hno j (by omega), rfl, rfl⟩⟩
      · skip
        refine lv_aload_n hx hb d_Ex_portOfInside_10 rfl (lv_at hl 0 rfl) ?_
        refine gm_get (C := R_Ex) (T := F_Ex) (n := 4) hx hb htl i_Ex hown hK hP e1 rfl 0 (by decide) (htl _ k_100) (fun _ h => h) rfl d_Ex_portOfInside_11 ?_
        refine lv_iload_n hx hb d_Ex_portOfInside_14 rfl (lv_at hl 3 rfl) ?_
        refine gz_iald hx hb hK hP 0 e2 rfl (by omega) (by omega) d_Ex_portOfInside_15 ?_
        have b_2 := hpp i
        refine lv_iload_n hx hb d_Ex_portOfInside_16 rfl (lv_at hl 1 rfl) ?_
        refine ln_ne (tgt := 37) hx hb d_Ex_portOfInside_17 (by decide) (by omega) (by omega) (fun c_3 => ?_) (fun c_3 => ?_)
        · skip
          refine lv_iinc (v := nI (i + 1)) (lv' := [(3, .int (nI (i + 1))), (0, .ref x), (1, .int (nI a)), (2, .int (nI b))]) hx hb d_Ex_portOfInside_37 hl (k := 3) rfl (nI_1 i) (by decide) rfl (fun ls hl => ?_)
          refine lv_goto (tgt := 2) hx hb d_Ex_portOfInside_40 (by decide) ?_
          exact ih_2 (i + 1) ls _ _ (by omega) (fun j hj => by rcases Nat.lt_succ_iff_lt_or_eq.mp hj with z | z; exact hno j z; subst z; first | exact fun z => c_3 z.1 | exact fun z => c_3 z.2) (by omega) hP hS (lv_sub hl [1, 2, 3, 0] rfl)
        · skip
          refine lv_aload_n hx hb d_Ex_portOfInside_20 rfl (lv_at hl 0 rfl) ?_
          refine gm_get (C := R_Ex) (T := F_Ex) (n := 4) hx hb htl i_Ex hown hK hP e1 rfl 2 (by decide) (htl _ k_102) (fun _ h => h) rfl d_Ex_portOfInside_21 ?_
          refine lv_iload_n hx hb d_Ex_portOfInside_24 rfl (lv_at hl 3 rfl) ?_
          refine gz_iald hx hb hK hP 0 e4 rfl (by omega) (by omega) d_Ex_portOfInside_25 ?_
          have b_4 := hpi i
          refine lv_iload_n hx hb d_Ex_portOfInside_26 rfl (lv_at hl 2 rfl) ?_
          refine ln_ne (tgt := 37) hx hb d_Ex_portOfInside_27 (by decide) (by omega) (by omega) (fun c_5 => ?_) (fun c_5 => ?_)
          · skip
            refine lv_iinc (v := nI (i + 1)) (lv' := [(3, .int (nI (i + 1))), (0, .ref x), (1, .int (nI a)), (2, .int (nI b))]) hx hb d_Ex_portOfInside_37 hl (k := 3) rfl (nI_1 i) (by decide) rfl (fun ls hl => ?_)
            refine lv_goto (tgt := 2) hx hb d_Ex_portOfInside_40 (by decide) ?_
            exact ih_2 (i + 1) ls _ _ (by omega) (fun j hj => by rcases Nat.lt_succ_iff_lt_or_eq.mp hj with z | z; exact hno j z; subst z; first | exact fun z => c_5 z.1 | exact fun z => c_5 z.2) (by omega) hP hS (lv_sub hl [1, 2, 3, 0] rfl)
          · skip
            refine lv_aload_n hx hb d_Ex_portOfInside_30 rfl (lv_at hl 0 rfl) ?_
            refine gm_get (C := R_Ex) (T := F_Ex) (n := 4) hx hb htl i_Ex hown hK hP e1 rfl 1 (by decide) (htl _ k_101) (fun _ h => h) rfl d_Ex_portOfInside_31 ?_
            refine lv_iload_n hx hb d_Ex_portOfInside_34 rfl (lv_at hl 3 rfl) ?_
            refine gz_iald hx hb hK hP 0 e3 rfl (by omega) (by omega) d_Ex_portOfInside_35 ?_
            have b_6 := hpo i
            rw [← hQ]
            exact gc_iret hx hb hr hlk hP hS d_Ex_portOfInside_36 ⟨rfl, Or.inl ⟨i, by omega, ⟨by assumption, by assumption⟩, hno, rfl, rfl⟩⟩
  exact loop_2 (_ + 1) 0 ls _ _ (Nat.zero_le _) (fun j hj => absurd hj (Nat.not_lt_zero _)) (Nat.lt_succ_self _) hP hS (lv_sub hl [1, 2, 3, 0] rfl)
set_option maxHeartbeats 4000000 in
set_option maxRecDepth 100000 in
theorem c_Ex_insideOfPort {x p0 q0 i0 n : Nat} {pp po pi : Nat → Nat} {a b : Nat} (e1 : M x = some (.inr (1, [.ref p0, .ref q0, .ref i0, .int (nI n)]))) (e2 : M p0 = some (.inl (ca 0, 4, .inl (iN pp)))) (e3 : M q0 = some (.inl (ca 0, 4, .inl (iN po)))) (e4 : M i0 = some (.inl (ca 0, 4, .inl (iN pi)))) (hn : n ≤ 4) (hpp : ∀ k, pp k < 65536) (hpo : ∀ k, po k < 65536) (hpi : ∀ k, pi k < 65536) (ha : a < 65536) (hb0 : b < 65536) : gC l D ca A G y_Ex_insideOfPort (.code y_Ex_insideOfPort b_Ex_insideOfPort 4 (some .int)) ({ frames := 1, cells := 0, slots := 0, locals := 23 }) N M [.ref x, .int (nI a), .int (nI b)] gm_i (fun (r : Int32) (N1 : Nat) (M1 : gm_M) => N = N1 ∧ ((∃ (k : Nat), (k < n) ∧ (pp k = a ∧ po k = b) ∧ (∀ j, j < k → ¬ (pp j = a ∧ po j = b)) ∧ M = M1 ∧ nI (pi k) = r) ∨ ((∀ j, j < n → ¬ (pp j = a ∧ po j = b)) ∧ M = M1 ∧ (-1) = r))) := by
  refine gm_body (by decide) (Nat.le_of_ble_eq_true rfl) (fun p e s m below meth c ls hx hb hr hts hown hlk hml hnm hP hK hN hX hS hl => ?_)
  have htl : ∀ w ∈ LW, w.before _ s = true := fun w h => hts w (List.mem_cons_of_mem _ h)
  have hown : s.vm.findClass "PacketGate$Exposures" = some m.cls := hown
  have hl : lv_has ls 4 [(0, .ref x), (1, .int (nI a)), (2, .int (nI b))] := hl
  refine lv_aload_n hx hb d_Ex_insideOfPort_0 rfl (lv_at hl 0 rfl) ?_
  refine lv_iload_n hx hb d_Ex_insideOfPort_1 rfl (lv_at hl 1 rfl) ?_
  refine lv_iload_n hx hb d_Ex_insideOfPort_2 rfl (lv_at hl 2 rfl) ?_
  refine gc_V (q := (R_Ex, F_Ex, 4)) (n := 2) [.int (nI a), .int (nI b)] [] hx hb hml hown hts hK hN hX hP hS (c_Ex_find e1 e2 e3 e4 (by omega) hpp hpo hpi (by omega) (by omega)) rfl e1 k_497 k_498 k_499 k_6 k_500 (by decide +kernel) ⟨by decide, by decide⟩ rfl hl.1 rfl (Nat.le_of_ble_eq_true rfl) d_Ex_insideOfPort_3 ⟨by decide, by decide⟩ (fun r N1 M_1 H locs hw hP hS => ?_)
  obtain ⟨rfl, hw⟩ := hw
  rcases hw with ⟨kv_2, c_3, c_4, c_5, rfl, rfl⟩ | ⟨c_6, rfl, rfl⟩
  · skip
    refine W.eq (g2 := F0 m 6 ls [.int (nI kv_2)]) rfl ?_
    refine lv_istore_n (lv' := [(3, .int (nI kv_2)), (0, .ref x), (1, .int (nI a)), (2, .int (nI b))]) hx hb d_Ex_insideOfPort_6 rfl hl (by decide) rfl (fun ls hl => ?_)
    refine lv_iload_n hx hb d_Ex_insideOfPort_7 rfl (lv_at hl 0 rfl) ?_
    refine lv_iconst (v := (-1)) hx hb d_Ex_insideOfPort_8 (by decide) ?_
    refine lv_icmp_ne (tgt := 16) hx hb d_Ex_insideOfPort_9 (by decide) (fun _ => ?_) (fun q => absurd q (nI_nm1 (by omega)))
    refine lv_aload_n hx hb d_Ex_insideOfPort_16 rfl (lv_at hl 1 rfl) ?_
    refine gm_get (C := R_Ex) (T := F_Ex) (n := 4) hx hb htl i_Ex hown hK hP e1 rfl 2 (by decide) (htl _ k_102) (fun _ h => h) rfl d_Ex_insideOfPort_17 ?_
    refine lv_iload_n hx hb d_Ex_insideOfPort_20 rfl (lv_at hl 0 rfl) ?_
    refine gz_iald hx hb hK hP 0 e4 rfl (by omega) (by omega) d_Ex_insideOfPort_21 ?_
    have b_7 := hpi kv_2
    exact gc_iret hx hb hr hlk hP hS d_Ex_insideOfPort_22 ⟨rfl, Or.inl ⟨kv_2, by assumption, by assumption, by assumption, rfl, rfl⟩⟩
  · skip
    refine W.eq (g2 := F0 m 6 ls [.int (-1)]) rfl ?_
    refine lv_istore_n (lv' := [(3, .int (-1)), (0, .ref x), (1, .int (nI a)), (2, .int (nI b))]) hx hb d_Ex_insideOfPort_6 rfl hl (by decide) rfl (fun ls hl => ?_)
    refine lv_iload_n hx hb d_Ex_insideOfPort_7 rfl (lv_at hl 0 rfl) ?_
    refine lv_iconst (v := (-1)) hx hb d_Ex_insideOfPort_8 (by decide) ?_
    refine lv_icmp_ne (tgt := 16) hx hb d_Ex_insideOfPort_9 (by decide) (fun q => absurd q (by decide)) (fun _ => ?_)
    refine lv_iconst (v := (-1)) hx hb d_Ex_insideOfPort_12 (by decide) ?_
    refine lv_goto (tgt := 22) hx hb d_Ex_insideOfPort_13 (by decide) ?_
    exact gc_iret hx hb hr hlk hP hS d_Ex_insideOfPort_22 ⟨rfl, Or.inr ⟨c_6, rfl, rfl⟩⟩
set_option maxHeartbeats 4000000 in
set_option maxRecDepth 100000 in
theorem c_Ex_add {x p0 q0 i0 n : Nat} {pp po pi : Nat → Nat} {a b c0 : Nat} (e1 : M x = some (.inr (1, [.ref p0, .ref q0, .ref i0, .int (nI n)]))) (e2 : M p0 = some (.inl (ca 0, 4, .inl (iN pp)))) (e3 : M q0 = some (.inl (ca 0, 4, .inl (iN po)))) (e4 : M i0 = some (.inl (ca 0, 4, .inl (iN pi)))) (hn : n ≤ 4) (hpp : ∀ k, pp k < 65536) (hpo : ∀ k, po k < 65536) (hpi : ∀ k, pi k < 65536) (hpq : p0 ≠ q0) (hpi0 : p0 ≠ i0) (hqi0 : q0 ≠ i0) (hlt : n < 4) : gC l D ca A G y_Ex_add (.code y_Ex_add b_Ex_add 4 none) ({ frames := 0, cells := 0, slots := 0, locals := 0 }) N M [.ref x, .int (nI a), .int (nI b), .int (nI c0)] gm_v (fun (_ : Unit) (N1 : Nat) (M1 : gm_M) => N = N1 ∧ gm_up (gm_up (gm_up (gm_up M p0 (.inl (ca 0, 4, .inl (iN (va_up pp n a))))) q0 (.inl (ca 0, 4, .inl (iN (va_up po n b))))) i0 (.inl (ca 0, 4, .inl (iN (va_up pi n c0))))) x (.inr (1, [.ref p0, .ref q0, .ref i0, .int (nI (n + 1))])) = M1) := by
  refine gm_body (by decide) (Nat.le_of_ble_eq_true rfl) (fun p e s m below meth c ls hx hb hr hts hown hlk hml hnm hP hK hN hX hS hl => ?_)
  have htl : ∀ w ∈ LW, w.before _ s = true := fun w h => hts w (List.mem_cons_of_mem _ h)
  have hown : s.vm.findClass "PacketGate$Exposures" = some m.cls := hown
  have hl : lv_has ls 4 [(0, .ref x), (1, .int (nI a)), (2, .int (nI b)), (3, .int (nI c0))] := hl
  refine lv_aload_n hx hb d_Ex_add_0 rfl (lv_at hl 0 rfl) ?_
  refine gm_get (C := R_Ex) (T := F_Ex) (n := 4) hx hb htl i_Ex hown hK hP e1 rfl 0 (by decide) (htl _ k_100) (fun _ h => h) rfl d_Ex_add_1 ?_
  refine lv_aload_n hx hb d_Ex_add_4 rfl (lv_at hl 0 rfl) ?_
  refine gm_get (C := R_Ex) (T := F_Ex) (n := 4) hx hb htl i_Ex hown hK hP e1 rfl 3 (by decide) (htl _ k_103) (fun _ h => h) rfl d_Ex_add_5 ?_
  refine lv_iload_n hx hb d_Ex_add_8 rfl (lv_at hl 1 rfl) ?_
  refine gz_iast hx hb hK hP hS 0 e2 rfl (by omega) (by omega) d_Ex_add_9 (fun H locs hP hS => ?_)
  have hP : gm_P D cls A N (gm_up M p0 (.inl (ca 0, 4, .inl (iN (va_up pp n a))))) H := hP
  have h_1 := gm_pass (k := p0) (y := .inl (ca 0, 4, .inl (iN (va_up pp n a)))) e1 (gm_ne e1 e2 (fun h => by cases h))
  have h_2 := gm_pass (k := p0) (y := .inl (ca 0, 4, .inl (iN (va_up pp n a)))) e3 (Ne.symm hpq)
  have h_3 := gm_pass (k := p0) (y := .inl (ca 0, 4, .inl (iN (va_up pp n a)))) e4 (Ne.symm hpi0)
  have h_4 := gm_up_self M p0 (.inl (ca 0, 4, .inl (iN (va_up pp n a))))
  refine lv_aload_n hx hb d_Ex_add_10 rfl (lv_at hl 0 rfl) ?_
  refine gm_get (C := R_Ex) (T := F_Ex) (n := 4) hx hb htl i_Ex hown hK hP h_1 rfl 1 (by decide) (htl _ k_101) (fun _ h => h) rfl d_Ex_add_11 ?_
  refine lv_aload_n hx hb d_Ex_add_14 rfl (lv_at hl 0 rfl) ?_
  refine gm_get (C := R_Ex) (T := F_Ex) (n := 4) hx hb htl i_Ex hown hK hP h_1 rfl 3 (by decide) (htl _ k_103) (fun _ h => h) rfl d_Ex_add_15 ?_
  refine lv_iload_n hx hb d_Ex_add_18 rfl (lv_at hl 2 rfl) ?_
  refine gz_iast hx hb hK hP hS 0 h_2 rfl (by omega) (by omega) d_Ex_add_19 (fun H locs hP hS => ?_)
  have hP : gm_P D cls A N (gm_up (gm_up M p0 (.inl (ca 0, 4, .inl (iN (va_up pp n a))))) q0 (.inl (ca 0, 4, .inl (iN (va_up po n b))))) H := hP
  have h_5 := gm_pass (k := q0) (y := .inl (ca 0, 4, .inl (iN (va_up po n b)))) h_1 (gm_ne h_1 h_2 (fun h => by cases h))
  have h_6 := gm_pass (k := q0) (y := .inl (ca 0, 4, .inl (iN (va_up po n b)))) h_3 (Ne.symm hqi0)
  have h_7 := gm_pass (k := q0) (y := .inl (ca 0, 4, .inl (iN (va_up po n b)))) h_4 hpq
  have h_8 := gm_up_self (gm_up M p0 (.inl (ca 0, 4, .inl (iN (va_up pp n a))))) q0 (.inl (ca 0, 4, .inl (iN (va_up po n b))))
  refine lv_aload_n hx hb d_Ex_add_20 rfl (lv_at hl 0 rfl) ?_
  refine gm_get (C := R_Ex) (T := F_Ex) (n := 4) hx hb htl i_Ex hown hK hP h_5 rfl 2 (by decide) (htl _ k_102) (fun _ h => h) rfl d_Ex_add_21 ?_
  refine lv_aload_n hx hb d_Ex_add_24 rfl (lv_at hl 0 rfl) ?_
  refine gm_get (C := R_Ex) (T := F_Ex) (n := 4) hx hb htl i_Ex hown hK hP h_5 rfl 3 (by decide) (htl _ k_103) (fun _ h => h) rfl d_Ex_add_25 ?_
  refine lv_iload_n hx hb d_Ex_add_28 rfl (lv_at hl 3 rfl) ?_
  refine gz_iast hx hb hK hP hS 0 h_6 rfl (by omega) (by omega) d_Ex_add_29 (fun H locs hP hS => ?_)
  have hP : gm_P D cls A N (gm_up (gm_up (gm_up M p0 (.inl (ca 0, 4, .inl (iN (va_up pp n a))))) q0 (.inl (ca 0, 4, .inl (iN (va_up po n b))))) i0 (.inl (ca 0, 4, .inl (iN (va_up pi n c0))))) H := hP
  have h_9 := gm_pass (k := i0) (y := .inl (ca 0, 4, .inl (iN (va_up pi n c0)))) h_5 (gm_ne h_5 h_6 (fun h => by cases h))
  have h_10 := gm_pass (k := i0) (y := .inl (ca 0, 4, .inl (iN (va_up pi n c0)))) h_7 hpi0
  have h_11 := gm_pass (k := i0) (y := .inl (ca 0, 4, .inl (iN (va_up pi n c0)))) h_8 hqi0
  have h_12 := gm_up_self (gm_up (gm_up M p0 (.inl (ca 0, 4, .inl (iN (va_up pp n a))))) q0 (.inl (ca 0, 4, .inl (iN (va_up po n b))))) i0 (.inl (ca 0, 4, .inl (iN (va_up pi n c0))))
  refine lv_aload_n hx hb d_Ex_add_30 rfl (lv_at hl 0 rfl) ?_
  refine lv_dup hx hb d_Ex_add_31 rfl ?_
  refine gm_get (C := R_Ex) (T := F_Ex) (n := 4) hx hb htl i_Ex hown hK hP h_9 rfl 3 (by decide) (htl _ k_103) (fun _ h => h) rfl d_Ex_add_32 ?_
  refine lv_iconst (v := nI 1) hx hb d_Ex_add_35 (by decide) ?_
  refine lv_iadd hx hb d_Ex_add_36 ?_
  rw [show (nI n) + (nI 1) = nI (n + 1) from nI_add _ _]
  refine gm_put (C := R_Ex) (T := F_Ex) (n := 4) (ty := .int) hx hb htl i_Ex t_Ex tk_Ex n_Ex hown hK hP hS h_9 rfl 3 (by decide) (htl _ k_103) (fun _ h => h) rfl (tk_Ex 3 (by decide)) rfl rfl (Nat.le_of_ble_eq_true rfl) d_Ex_add_37 (fun H locs hP hS => ?_)
  have hP : gm_P D cls A N (gm_up (gm_up (gm_up (gm_up M p0 (.inl (ca 0, 4, .inl (iN (va_up pp n a))))) q0 (.inl (ca 0, 4, .inl (iN (va_up po n b))))) i0 (.inl (ca 0, 4, .inl (iN (va_up pi n c0))))) x (.inr (1, [.ref p0, .ref q0, .ref i0, .int (nI (n + 1))]))) H := hP
  have h_13 := gm_pass (k := x) (y := .inr (1, [.ref p0, .ref q0, .ref i0, .int (nI (n + 1))])) h_10 (gm_ne h_10 h_9 (fun h => by cases h))
  have h_14 := gm_pass (k := x) (y := .inr (1, [.ref p0, .ref q0, .ref i0, .int (nI (n + 1))])) h_11 (gm_ne h_11 h_9 (fun h => by cases h))
  have h_15 := gm_pass (k := x) (y := .inr (1, [.ref p0, .ref q0, .ref i0, .int (nI (n + 1))])) h_12 (gm_ne h_12 h_9 (fun h => by cases h))
  have h_16 := gm_up_self (gm_up (gm_up (gm_up M p0 (.inl (ca 0, 4, .inl (iN (va_up pp n a))))) q0 (.inl (ca 0, 4, .inl (iN (va_up po n b))))) i0 (.inl (ca 0, 4, .inl (iN (va_up pi n c0))))) x (.inr (1, [.ref p0, .ref q0, .ref i0, .int (nI (n + 1))]))
  exact gc_vret hx hb hr hlk hP hS d_Ex_add_40 ⟨rfl, rfl⟩
set_option maxHeartbeats 4000000 in
set_option maxRecDepth 100000 in
theorem c_Ex_remove {x p0 q0 i0 n : Nat} {pp po pi : Nat → Nat} {k : Nat} (e1 : M x = some (.inr (1, [.ref p0, .ref q0, .ref i0, .int (nI n)]))) (e2 : M p0 = some (.inl (ca 0, 4, .inl (iN pp)))) (e3 : M q0 = some (.inl (ca 0, 4, .inl (iN po)))) (e4 : M i0 = some (.inl (ca 0, 4, .inl (iN pi)))) (hn : n ≤ 4) (hpp : ∀ k, pp k < 65536) (hpo : ∀ k, po k < 65536) (hpi : ∀ k, pi k < 65536) (hpq : p0 ≠ q0) (hpi0 : p0 ≠ i0) (hqi0 : q0 ≠ i0) (hk : k < n) : gC l D ca A G y_Ex_remove (.code y_Ex_remove b_Ex_remove 3 none) ({ frames := 0, cells := 0, slots := 0, locals := 0 }) N M [.ref x, .int (nI k)] gm_v (fun (_ : Unit) (N1 : Nat) (M1 : gm_M) => N = N1 ∧ gm_up (gm_up (gm_up (gm_up M p0 (.inl (ca 0, 4, .inl (iN (va_up pp k (pp (n - 1))))))) q0 (.inl (ca 0, 4, .inl (iN (va_up po k (po (n - 1))))))) i0 (.inl (ca 0, 4, .inl (iN (va_up pi k (pi (n - 1))))))) x (.inr (1, [.ref p0, .ref q0, .ref i0, .int (nI (n - 1))])) = M1) := by
  refine gm_body (by decide) (Nat.le_of_ble_eq_true rfl) (fun p e s m below meth c ls hx hb hr hts hown hlk hml hnm hP hK hN hX hS hl => ?_)
  have htl : ∀ w ∈ LW, w.before _ s = true := fun w h => hts w (List.mem_cons_of_mem _ h)
  have hown : s.vm.findClass "PacketGate$Exposures" = some m.cls := hown
  have hl : lv_has ls 3 [(0, .ref x), (1, .int (nI k))] := hl
  refine lv_aload_n hx hb d_Ex_remove_0 rfl (lv_at hl 0 rfl) ?_
  refine gm_get (C := R_Ex) (T := F_Ex) (n := 4) hx hb htl i_Ex hown hK hP e1 rfl 3 (by decide) (htl _ k_103) (fun _ h => h) rfl d_Ex_remove_1 ?_
  refine lv_iconst (v := nI 1) hx hb d_Ex_remove_4 (by decide) ?_
  refine lv_isub hx hb d_Ex_remove_5 ?_
  rw [show (nI n) - (nI 1) = nI (n - 1) from pk_sub (by omega)]
  refine lv_istore_n (lv' := [(2, .int (nI (n - 1))), (0, .ref x), (1, .int (nI k))]) hx hb d_Ex_remove_6 rfl hl (by decide) rfl (fun ls hl => ?_)
  refine lv_aload_n hx hb d_Ex_remove_7 rfl (lv_at hl 1 rfl) ?_
  refine gm_get (C := R_Ex) (T := F_Ex) (n := 4) hx hb htl i_Ex hown hK hP e1 rfl 0 (by decide) (htl _ k_100) (fun _ h => h) rfl d_Ex_remove_8 ?_
  refine lv_iload_n hx hb d_Ex_remove_11 rfl (lv_at hl 2 rfl) ?_
  refine lv_aload_n hx hb d_Ex_remove_12 rfl (lv_at hl 1 rfl) ?_
  refine gm_get (C := R_Ex) (T := F_Ex) (n := 4) hx hb htl i_Ex hown hK hP e1 rfl 0 (by decide) (htl _ k_100) (fun _ h => h) rfl d_Ex_remove_13 ?_
  refine lv_iload_n hx hb d_Ex_remove_16 rfl (lv_at hl 0 rfl) ?_
  refine gz_iald hx hb hK hP 0 e2 rfl (by omega) (by omega) d_Ex_remove_17 ?_
  refine gz_iast hx hb hK hP hS 0 e2 rfl (by omega) (by omega) d_Ex_remove_18 (fun H locs hP hS => ?_)
  have hP : gm_P D cls A N (gm_up M p0 (.inl (ca 0, 4, .inl (iN (va_up pp k (pp (n - 1))))))) H := hP
  have h_1 := gm_pass (k := p0) (y := .inl (ca 0, 4, .inl (iN (va_up pp k (pp (n - 1)))))) e1 (gm_ne e1 e2 (fun h => by cases h))
  have h_2 := gm_pass (k := p0) (y := .inl (ca 0, 4, .inl (iN (va_up pp k (pp (n - 1)))))) e3 (Ne.symm hpq)
  have h_3 := gm_pass (k := p0) (y := .inl (ca 0, 4, .inl (iN (va_up pp k (pp (n - 1)))))) e4 (Ne.symm hpi0)
  have h_4 := gm_up_self M p0 (.inl (ca 0, 4, .inl (iN (va_up pp k (pp (n - 1))))))
  refine lv_aload_n hx hb d_Ex_remove_19 rfl (lv_at hl 1 rfl) ?_
  refine gm_get (C := R_Ex) (T := F_Ex) (n := 4) hx hb htl i_Ex hown hK hP h_1 rfl 1 (by decide) (htl _ k_101) (fun _ h => h) rfl d_Ex_remove_20 ?_
  refine lv_iload_n hx hb d_Ex_remove_23 rfl (lv_at hl 2 rfl) ?_
  refine lv_aload_n hx hb d_Ex_remove_24 rfl (lv_at hl 1 rfl) ?_
  refine gm_get (C := R_Ex) (T := F_Ex) (n := 4) hx hb htl i_Ex hown hK hP h_1 rfl 1 (by decide) (htl _ k_101) (fun _ h => h) rfl d_Ex_remove_25 ?_
  refine lv_iload_n hx hb d_Ex_remove_28 rfl (lv_at hl 0 rfl) ?_
  refine gz_iald hx hb hK hP 0 h_2 rfl (by omega) (by omega) d_Ex_remove_29 ?_
  refine gz_iast hx hb hK hP hS 0 h_2 rfl (by omega) (by omega) d_Ex_remove_30 (fun H locs hP hS => ?_)
  have hP : gm_P D cls A N (gm_up (gm_up M p0 (.inl (ca 0, 4, .inl (iN (va_up pp k (pp (n - 1))))))) q0 (.inl (ca 0, 4, .inl (iN (va_up po k (po (n - 1))))))) H := hP
  have h_5 := gm_pass (k := q0) (y := .inl (ca 0, 4, .inl (iN (va_up po k (po (n - 1)))))) h_1 (gm_ne h_1 h_2 (fun h => by cases h))
  have h_6 := gm_pass (k := q0) (y := .inl (ca 0, 4, .inl (iN (va_up po k (po (n - 1)))))) h_3 (Ne.symm hqi0)
  have h_7 := gm_pass (k := q0) (y := .inl (ca 0, 4, .inl (iN (va_up po k (po (n - 1)))))) h_4 hpq
  have h_8 := gm_up_self (gm_up M p0 (.inl (ca 0, 4, .inl (iN (va_up pp k (pp (n - 1))))))) q0 (.inl (ca 0, 4, .inl (iN (va_up po k (po (n - 1))))))
  refine lv_aload_n hx hb d_Ex_remove_31 rfl (lv_at hl 1 rfl) ?_
  refine gm_get (C := R_Ex) (T := F_Ex) (n := 4) hx hb htl i_Ex hown hK hP h_5 rfl 2 (by decide) (htl _ k_102) (fun _ h => h) rfl d_Ex_remove_32 ?_
  refine lv_iload_n hx hb d_Ex_remove_35 rfl (lv_at hl 2 rfl) ?_
  refine lv_aload_n hx hb d_Ex_remove_36 rfl (lv_at hl 1 rfl) ?_
  refine gm_get (C := R_Ex) (T := F_Ex) (n := 4) hx hb htl i_Ex hown hK hP h_5 rfl 2 (by decide) (htl _ k_102) (fun _ h => h) rfl d_Ex_remove_37 ?_
  refine lv_iload_n hx hb d_Ex_remove_40 rfl (lv_at hl 0 rfl) ?_
  refine gz_iald hx hb hK hP 0 h_6 rfl (by omega) (by omega) d_Ex_remove_41 ?_
  refine gz_iast hx hb hK hP hS 0 h_6 rfl (by omega) (by omega) d_Ex_remove_42 (fun H locs hP hS => ?_)
  have hP : gm_P D cls A N (gm_up (gm_up (gm_up M p0 (.inl (ca 0, 4, .inl (iN (va_up pp k (pp (n - 1))))))) q0 (.inl (ca 0, 4, .inl (iN (va_up po k (po (n - 1))))))) i0 (.inl (ca 0, 4, .inl (iN (va_up pi k (pi (n - 1))))))) H := hP
  have h_9 := gm_pass (k := i0) (y := .inl (ca 0, 4, .inl (iN (va_up pi k (pi (n - 1)))))) h_5 (gm_ne h_5 h_6 (fun h => by cases h))
  have h_10 := gm_pass (k := i0) (y := .inl (ca 0, 4, .inl (iN (va_up pi k (pi (n - 1)))))) h_7 hpi0
  have h_11 := gm_pass (k := i0) (y := .inl (ca 0, 4, .inl (iN (va_up pi k (pi (n - 1)))))) h_8 hqi0
  have h_12 := gm_up_self (gm_up (gm_up M p0 (.inl (ca 0, 4, .inl (iN (va_up pp k (pp (n - 1))))))) q0 (.inl (ca 0, 4, .inl (iN (va_up po k (po (n - 1))))))) i0 (.inl (ca 0, 4, .inl (iN (va_up pi k (pi (n - 1))))))
  refine lv_aload_n hx hb d_Ex_remove_43 rfl (lv_at hl 1 rfl) ?_
  refine lv_iload_n hx hb d_Ex_remove_44 rfl (lv_at hl 0 rfl) ?_
  refine gm_put (C := R_Ex) (T := F_Ex) (n := 4) (ty := .int) hx hb htl i_Ex t_Ex tk_Ex n_Ex hown hK hP hS h_9 rfl 3 (by decide) (htl _ k_103) (fun _ h => h) rfl (tk_Ex 3 (by decide)) rfl rfl (Nat.le_of_ble_eq_true rfl) d_Ex_remove_45 (fun H locs hP hS => ?_)
  have hP : gm_P D cls A N (gm_up (gm_up (gm_up (gm_up M p0 (.inl (ca 0, 4, .inl (iN (va_up pp k (pp (n - 1))))))) q0 (.inl (ca 0, 4, .inl (iN (va_up po k (po (n - 1))))))) i0 (.inl (ca 0, 4, .inl (iN (va_up pi k (pi (n - 1))))))) x (.inr (1, [.ref p0, .ref q0, .ref i0, .int (nI (n - 1))]))) H := hP
  have h_13 := gm_pass (k := x) (y := .inr (1, [.ref p0, .ref q0, .ref i0, .int (nI (n - 1))])) h_10 (gm_ne h_10 h_9 (fun h => by cases h))
  have h_14 := gm_pass (k := x) (y := .inr (1, [.ref p0, .ref q0, .ref i0, .int (nI (n - 1))])) h_11 (gm_ne h_11 h_9 (fun h => by cases h))
  have h_15 := gm_pass (k := x) (y := .inr (1, [.ref p0, .ref q0, .ref i0, .int (nI (n - 1))])) h_12 (gm_ne h_12 h_9 (fun h => by cases h))
  have h_16 := gm_up_self (gm_up (gm_up (gm_up M p0 (.inl (ca 0, 4, .inl (iN (va_up pp k (pp (n - 1))))))) q0 (.inl (ca 0, 4, .inl (iN (va_up po k (po (n - 1))))))) i0 (.inl (ca 0, 4, .inl (iN (va_up pi k (pi (n - 1))))))) x (.inr (1, [.ref p0, .ref q0, .ref i0, .int (nI (n - 1))]))
  exact gc_vret hx hb hr hlk hP hS d_Ex_remove_48 ⟨rfl, rfl⟩
end C12
