section C13
variable {l : Launch} {D : va_G} {ca : Nat → ClassId} {A : Nat → Prop} {G : gG} {N : Nat} {M : gm_M}

/-- the state behind a packet from side b with flags f (none: bad; 0: ended), of a flow with protocol pr, opening side op, closing side cl, state st -/
def stA (pr op cl st b f : Nat) : Option Nat :=
  if ¬ pr = 0 then (if b = op then some st else some 7) else
  if ¬ f &&& 8 = 0 then some 0 else
  if st = 1 then (if b = op then (if f = 1 then some 1 else none) else (if f = 3 then some 2 else none)) else
  if st = 2 then (if b = op then (if f &&& 2 = 0 ∨ ¬ f &&& 1 = 0 then none else if ¬ f &&& 4 = 0 then some 4 else some 3) else (if f = 3 then some 2 else none)) else
  (if ¬ f &&& 1 = 0 then none else if f &&& 4 = 0 then some st else if st = 3 then some 4 else if st = 4 ∧ b = cl then some 4 else some 5)
theorem and_lt (f k : Nat) (h : k < 2 ^ 31) : f &&& k < 2 ^ 31 := Nat.lt_of_le_of_lt Nat.and_le_right h
set_option maxHeartbeats 4000000 in
set_option maxRecDepth 100000 in
theorem c_Fl_canBegin (a f : Nat) (ha : a < 65536) (hf : f < 65536) : gC l D ca A G y_Fl_canBegin (.code y_Fl_canBegin b_Fl_canBegin 2 (some .boolean)) ({ frames := 0, cells := 0, slots := 0, locals := 0 }) N M [.int (nI a), .int (nI f)] gm_i (fun (r : Int32) (N1 : Nat) (M1 : gm_M) => N = N1 ∧ (((¬ a = 0 ∨ f = 1) ∧ M = M1 ∧ nI 1 = r) ∨ ((a = 0 ∧ ¬ f = 1) ∧ M = M1 ∧ nI 0 = r))) := by
  refine gm_body (by decide) (Nat.le_of_ble_eq_true rfl) (fun p e s m below meth c ls hx hb hr hts hown hlk hml hnm hP hK hN hX hS hl => ?_)
  have htl : ∀ w ∈ LW, w.before _ s = true := fun w h => hts w (List.mem_cons_of_mem _ h)
  have hown : s.vm.findClass "PacketGate$Flow" = some m.cls := hown
  have hl : lv_has ls 2 [(0, .int (nI a)), (1, .int (nI f))] := hl
  refine lv_iload_n hx hb d_Fl_canBegin_0 rfl (lv_at hl 0 rfl) ?_
  refine lz_ne (tgt := 9) hx hb d_Fl_canBegin_1 (by decide) (by omega) (fun c_1 => ?_) (fun c_1 => ?_)
  · skip
    refine lv_iconst (v := nI 1) hx hb d_Fl_canBegin_9 (by decide) ?_
    refine lv_goto (tgt := 14) hx hb d_Fl_canBegin_10 (by decide) ?_
    exact gc_zret hx hb hr hlk hP hS d_Fl_canBegin_14 rfl (by first | exact ⟨rfl, Or.inl ⟨(by first | assumption | omega), rfl, rfl⟩⟩ | exact ⟨rfl, Or.inr ⟨(by first | assumption | omega), rfl, rfl⟩⟩)
  · skip
    refine lv_iload_n hx hb d_Fl_canBegin_4 rfl (lv_at hl 1 rfl) ?_
    refine lv_iconst (v := nI 1) hx hb d_Fl_canBegin_5 (by decide) ?_
    refine ln_ne (tgt := 13) hx hb d_Fl_canBegin_6 (by decide) (by omega) (by omega) (fun c_2 => ?_) (fun c_2 => ?_)
    · skip
      refine lv_iconst (v := nI 0) hx hb d_Fl_canBegin_13 (by decide) ?_
      exact gc_zret hx hb hr hlk hP hS d_Fl_canBegin_14 rfl (by first | exact ⟨rfl, Or.inl ⟨(by first | assumption | omega), rfl, rfl⟩⟩ | exact ⟨rfl, Or.inr ⟨(by first | assumption | omega), rfl, rfl⟩⟩)
    · skip
      refine lv_iconst (v := nI 1) hx hb d_Fl_canBegin_9 (by decide) ?_
      refine lv_goto (tgt := 14) hx hb d_Fl_canBegin_10 (by decide) ?_
      exact gc_zret hx hb hr hlk hP hS d_Fl_canBegin_14 rfl (by first | exact ⟨rfl, Or.inl ⟨(by first | assumption | omega), rfl, rfl⟩⟩ | exact ⟨rfl, Or.inr ⟨(by first | assumption | omega), rfl, rfl⟩⟩)
set_option maxHeartbeats 4000000 in
set_option maxRecDepth 100000 in
theorem c_Fl_begin {x pr ins out pub st la op cl : Nat} {pr2 ins2 out2 pub2 b tm : Nat} (e1 : M x = some (.inr (2, [.int (nI pr), .int (nI ins), .int (nI out), .int (nI pub), .int (nI st), .int (nI la), .int (nI op), .int (nI cl)]))) (hpr : pr2 < 65536) (hb0 : b ≤ 1) : gC l D ca A G y_Fl_begin (.code y_Fl_begin b_Fl_begin 7 none) ({ frames := 0, cells := 0, slots := 0, locals := 0 }) N M [.ref x, .int (nI pr2), .int (nI ins2), .int (nI out2), .int (nI pub2), .int (nI b), .int (nI tm)] gm_v (fun (_ : Unit) (N1 : Nat) (M1 : gm_M) => N = N1 ∧ (((pr2 = 0) ∧ gm_up M x (.inr (2, [.int (nI pr2), .int (nI ins2), .int (nI out2), .int (nI pub2), .int (nI 1), .int (nI tm), .int (nI b), .int (nI 0)])) = M1) ∨ ((¬ pr2 = 0) ∧ gm_up M x (.inr (2, [.int (nI pr2), .int (nI ins2), .int (nI out2), .int (nI pub2), .int (nI 6), .int (nI tm), .int (nI b), .int (nI 0)])) = M1))) := by
  refine gm_body (by decide) (Nat.le_of_ble_eq_true rfl) (fun p e s m below meth c ls hx hb hr hts hown hlk hml hnm hP hK hN hX hS hl => ?_)
  have htl : ∀ w ∈ LW, w.before _ s = true := fun w h => hts w (List.mem_cons_of_mem _ h)
  have hown : s.vm.findClass "PacketGate$Flow" = some m.cls := hown
  have hl : lv_has ls 7 [(0, .ref x), (1, .int (nI pr2)), (2, .int (nI ins2)), (3, .int (nI out2)), (4, .int (nI pub2)), (5, .int (nI b)), (6, .int (nI tm))] := hl
  refine lv_aload_n hx hb d_Fl_begin_0 rfl (lv_at hl 0 rfl) ?_
  refine lv_iload_n hx hb d_Fl_begin_1 rfl (lv_at hl 1 rfl) ?_
  refine gm_put (C := R_Fl) (T := F_Fl) (n := 8) (ty := .int) hx hb htl i_Fl t_Fl tk_Fl n_Fl hown hK hP hS e1 rfl 0 (by decide) (htl _ k_127) (fun _ h => h) rfl (tk_Fl 0 (by decide)) rfl rfl (Nat.le_of_ble_eq_true rfl) d_Fl_begin_2 (fun H locs hP hS => ?_)
  have hP : gm_P D cls A N (gm_up M x (.inr (2, [.int (nI pr2), .int (nI ins), .int (nI out), .int (nI pub), .int (nI st), .int (nI la), .int (nI op), .int (nI cl)]))) H := hP
  have h_1 := gm_up_self M x (.inr (2, [.int (nI pr2), .int (nI ins), .int (nI out), .int (nI pub), .int (nI st), .int (nI la), .int (nI op), .int (nI cl)]))
  refine lv_aload_n hx hb d_Fl_begin_5 rfl (lv_at hl 0 rfl) ?_
  refine lv_iload_n hx hb d_Fl_begin_6 rfl (lv_at hl 2 rfl) ?_
  refine gm_put (C := R_Fl) (T := F_Fl) (n := 8) (ty := .int) hx hb htl i_Fl t_Fl tk_Fl n_Fl hown hK hP hS h_1 rfl 1 (by decide) (htl _ k_129) (fun _ h => h) rfl (tk_Fl 1 (by decide)) rfl rfl (Nat.le_of_ble_eq_true rfl) d_Fl_begin_7 (fun H locs hP hS => ?_)
  have he_2 : gm_up (gm_up M x (.inr (2, [.int (nI pr2), .int (nI ins), .int (nI out), .int (nI pub), .int (nI st), .int (nI la), .int (nI op), .int (nI cl)]))) x (.inr (2, [.int (nI pr2), .int (nI ins2), .int (nI out), .int (nI pub), .int (nI st), .int (nI la), .int (nI op), .int (nI cl)])) = gm_up M x (.inr (2, [.int (nI pr2), .int (nI ins2), .int (nI out), .int (nI pub), .int (nI st), .int (nI la), .int (nI op), .int (nI cl)])) := gm_up_up _ _ _ _
  have hP := Eq.mp (congrArg (fun Z => gm_P D cls A N Z H) he_2) hP
  have h_3 := (congrFun he_2 _).symm.trans (gm_up_self (gm_up M x (.inr (2, [.int (nI pr2), .int (nI ins), .int (nI out), .int (nI pub), .int (nI st), .int (nI la), .int (nI op), .int (nI cl)]))) x (.inr (2, [.int (nI pr2), .int (nI ins2), .int (nI out), .int (nI pub), .int (nI st), .int (nI la), .int (nI op), .int (nI cl)])))
  refine lv_aload_n hx hb d_Fl_begin_10 rfl (lv_at hl 0 rfl) ?_
  refine lv_iload_n hx hb d_Fl_begin_11 rfl (lv_at hl 3 rfl) ?_
  refine gm_put (C := R_Fl) (T := F_Fl) (n := 8) (ty := .int) hx hb htl i_Fl t_Fl tk_Fl n_Fl hown hK hP hS h_3 rfl 2 (by decide) (htl _ k_131) (fun _ h => h) rfl (tk_Fl 2 (by decide)) rfl rfl (Nat.le_of_ble_eq_true rfl) d_Fl_begin_12 (fun H locs hP hS => ?_)
  have he_4 : gm_up (gm_up M x (.inr (2, [.int (nI pr2), .int (nI ins2), .int (nI out), .int (nI pub), .int (nI st), .int (nI la), .int (nI op), .int (nI cl)]))) x (.inr (2, [.int (nI pr2), .int (nI ins2), .int (nI out2), .int (nI pub), .int (nI st), .int (nI la), .int (nI op), .int (nI cl)])) = gm_up M x (.inr (2, [.int (nI pr2), .int (nI ins2), .int (nI out2), .int (nI pub), .int (nI st), .int (nI la), .int (nI op), .int (nI cl)])) := gm_up_up _ _ _ _
  have hP := Eq.mp (congrArg (fun Z => gm_P D cls A N Z H) he_4) hP
  have h_5 := (congrFun he_4 _).symm.trans (gm_up_self (gm_up M x (.inr (2, [.int (nI pr2), .int (nI ins2), .int (nI out), .int (nI pub), .int (nI st), .int (nI la), .int (nI op), .int (nI cl)]))) x (.inr (2, [.int (nI pr2), .int (nI ins2), .int (nI out2), .int (nI pub), .int (nI st), .int (nI la), .int (nI op), .int (nI cl)])))
  refine lv_aload_n hx hb d_Fl_begin_15 rfl (lv_at hl 0 rfl) ?_
  refine lv_iload hx hb d_Fl_begin_16 (lv_at hl 4 rfl) ?_
  refine gm_put (C := R_Fl) (T := F_Fl) (n := 8) (ty := .int) hx hb htl i_Fl t_Fl tk_Fl n_Fl hown hK hP hS h_5 rfl 3 (by decide) (htl _ k_133) (fun _ h => h) rfl (tk_Fl 3 (by decide)) rfl rfl (Nat.le_of_ble_eq_true rfl) d_Fl_begin_18 (fun H locs hP hS => ?_)
  have he_6 : gm_up (gm_up M x (.inr (2, [.int (nI pr2), .int (nI ins2), .int (nI out2), .int (nI pub), .int (nI st), .int (nI la), .int (nI op), .int (nI cl)]))) x (.inr (2, [.int (nI pr2), .int (nI ins2), .int (nI out2), .int (nI pub2), .int (nI st), .int (nI la), .int (nI op), .int (nI cl)])) = gm_up M x (.inr (2, [.int (nI pr2), .int (nI ins2), .int (nI out2), .int (nI pub2), .int (nI st), .int (nI la), .int (nI op), .int (nI cl)])) := gm_up_up _ _ _ _
  have hP := Eq.mp (congrArg (fun Z => gm_P D cls A N Z H) he_6) hP
  have h_7 := (congrFun he_6 _).symm.trans (gm_up_self (gm_up M x (.inr (2, [.int (nI pr2), .int (nI ins2), .int (nI out2), .int (nI pub), .int (nI st), .int (nI la), .int (nI op), .int (nI cl)]))) x (.inr (2, [.int (nI pr2), .int (nI ins2), .int (nI out2), .int (nI pub2), .int (nI st), .int (nI la), .int (nI op), .int (nI cl)])))
  refine lv_aload_n hx hb d_Fl_begin_21 rfl (lv_at hl 0 rfl) ?_
  refine lv_iload_n hx hb d_Fl_begin_22 rfl (lv_at hl 1 rfl) ?_
  refine lz_ne (tgt := 30) hx hb d_Fl_begin_23 (by decide) (by omega) (fun c_8 => ?_) (fun c_8 => ?_)
  · skip
    refine lv_bipush (v := nI 6) hx hb d_Fl_begin_30 (by decide) ?_
    refine gm_put (C := R_Fl) (T := F_Fl) (n := 8) (ty := .int) hx hb htl i_Fl t_Fl tk_Fl n_Fl hown hK hP hS h_7 rfl 4 (by decide) (htl _ k_136) (fun _ h => h) rfl (tk_Fl 4 (by decide)) rfl rfl (Nat.le_of_ble_eq_true rfl) d_Fl_begin_32 (fun H locs hP hS => ?_)
    have he_9 : gm_up (gm_up M x (.inr (2, [.int (nI pr2), .int (nI ins2), .int (nI out2), .int (nI pub2), .int (nI st), .int (nI la), .int (nI op), .int (nI cl)]))) x (.inr (2, [.int (nI pr2), .int (nI ins2), .int (nI out2), .int (nI pub2), .int (nI 6), .int (nI la), .int (nI op), .int (nI cl)])) = gm_up M x (.inr (2, [.int (nI pr2), .int (nI ins2), .int (nI out2), .int (nI pub2), .int (nI 6), .int (nI la), .int (nI op), .int (nI cl)])) := gm_up_up _ _ _ _
    have hP := Eq.mp (congrArg (fun Z => gm_P D cls A N Z H) he_9) hP
    have h_10 := (congrFun he_9 _).symm.trans (gm_up_self (gm_up M x (.inr (2, [.int (nI pr2), .int (nI ins2), .int (nI out2), .int (nI pub2), .int (nI st), .int (nI la), .int (nI op), .int (nI cl)]))) x (.inr (2, [.int (nI pr2), .int (nI ins2), .int (nI out2), .int (nI pub2), .int (nI 6), .int (nI la), .int (nI op), .int (nI cl)])))
    refine lv_aload_n hx hb d_Fl_begin_35 rfl (lv_at hl 0 rfl) ?_
    refine lv_iload hx hb d_Fl_begin_36 (lv_at hl 6 rfl) ?_
    refine gm_put (C := R_Fl) (T := F_Fl) (n := 8) (ty := .int) hx hb htl i_Fl t_Fl tk_Fl n_Fl hown hK hP hS h_10 rfl 5 (by decide) (htl _ k_138) (fun _ h => h) rfl (tk_Fl 5 (by decide)) rfl rfl (Nat.le_of_ble_eq_true rfl) d_Fl_begin_38 (fun H locs hP hS => ?_)
    have he_11 : gm_up (gm_up M x (.inr (2, [.int (nI pr2), .int (nI ins2), .int (nI out2), .int (nI pub2), .int (nI 6), .int (nI la), .int (nI op), .int (nI cl)]))) x (.inr (2, [.int (nI pr2), .int (nI ins2), .int (nI out2), .int (nI pub2), .int (nI 6), .int (nI tm), .int (nI op), .int (nI cl)])) = gm_up M x (.inr (2, [.int (nI pr2), .int (nI ins2), .int (nI out2), .int (nI pub2), .int (nI 6), .int (nI tm), .int (nI op), .int (nI cl)])) := gm_up_up _ _ _ _
    have hP := Eq.mp (congrArg (fun Z => gm_P D cls A N Z H) he_11) hP
    have h_12 := (congrFun he_11 _).symm.trans (gm_up_self (gm_up M x (.inr (2, [.int (nI pr2), .int (nI ins2), .int (nI out2), .int (nI pub2), .int (nI 6), .int (nI la), .int (nI op), .int (nI cl)]))) x (.inr (2, [.int (nI pr2), .int (nI ins2), .int (nI out2), .int (nI pub2), .int (nI 6), .int (nI tm), .int (nI op), .int (nI cl)])))
    refine lv_aload_n hx hb d_Fl_begin_41 rfl (lv_at hl 0 rfl) ?_
    refine lv_iload hx hb d_Fl_begin_42 (lv_at hl 5 rfl) ?_
    refine gm_put (C := R_Fl) (T := F_Fl) (n := 8) (ty := .boolean) hx hb htl i_Fl t_Fl tk_Fl n_Fl hown hK hP hS h_12 rfl 6 (by decide) (htl _ k_139) (fun _ h => h) rfl (tk_Fl 6 (by decide)) (nbz b hb0).1 (nbz b hb0).2 (Nat.le_of_ble_eq_true rfl) d_Fl_begin_44 (fun H locs hP hS => ?_)
    have he_13 : gm_up (gm_up M x (.inr (2, [.int (nI pr2), .int (nI ins2), .int (nI out2), .int (nI pub2), .int (nI 6), .int (nI tm), .int (nI op), .int (nI cl)]))) x (.inr (2, [.int (nI pr2), .int (nI ins2), .int (nI out2), .int (nI pub2), .int (nI 6), .int (nI tm), .int (nI b), .int (nI cl)])) = gm_up M x (.inr (2, [.int (nI pr2), .int (nI ins2), .int (nI out2), .int (nI pub2), .int (nI 6), .int (nI tm), .int (nI b), .int (nI cl)])) := gm_up_up _ _ _ _
    have hP := Eq.mp (congrArg (fun Z => gm_P D cls A N Z H) he_13) hP
    have h_14 := (congrFun he_13 _).symm.trans (gm_up_self (gm_up M x (.inr (2, [.int (nI pr2), .int (nI ins2), .int (nI out2), .int (nI pub2), .int (nI 6), .int (nI tm), .int (nI op), .int (nI cl)]))) x (.inr (2, [.int (nI pr2), .int (nI ins2), .int (nI out2), .int (nI pub2), .int (nI 6), .int (nI tm), .int (nI b), .int (nI cl)])))
    refine lv_aload_n hx hb d_Fl_begin_47 rfl (lv_at hl 0 rfl) ?_
    refine lv_iconst (v := nI 0) hx hb d_Fl_begin_48 (by decide) ?_
    refine gm_put (C := R_Fl) (T := F_Fl) (n := 8) (ty := .boolean) hx hb htl i_Fl t_Fl tk_Fl n_Fl hown hK hP hS h_14 rfl 7 (by decide) (htl _ k_140) (fun _ h => h) rfl (tk_Fl 7 (by decide)) rfl rfl (Nat.le_of_ble_eq_true rfl) d_Fl_begin_49 (fun H locs hP hS => ?_)
    have he_15 : gm_up (gm_up M x (.inr (2, [.int (nI pr2), .int (nI ins2), .int (nI out2), .int (nI pub2), .int (nI 6), .int (nI tm), .int (nI b), .int (nI cl)]))) x (.inr (2, [.int (nI pr2), .int (nI ins2), .int (nI out2), .int (nI pub2), .int (nI 6), .int (nI tm), .int (nI b), .int (nI 0)])) = gm_up M x (.inr (2, [.int (nI pr2), .int (nI ins2), .int (nI out2), .int (nI pub2), .int (nI 6), .int (nI tm), .int (nI b), .int (nI 0)])) := gm_up_up _ _ _ _
    have hP := Eq.mp (congrArg (fun Z => gm_P D cls A N Z H) he_15) hP
    have h_16 := (congrFun he_15 _).symm.trans (gm_up_self (gm_up M x (.inr (2, [.int (nI pr2), .int (nI ins2), .int (nI out2), .int (nI pub2), .int (nI 6), .int (nI tm), .int (nI b), .int (nI cl)]))) x (.inr (2, [.int (nI pr2), .int (nI ins2), .int (nI out2), .int (nI pub2), .int (nI 6), .int (nI tm), .int (nI b), .int (nI 0)])))
    exact gc_vret hx hb hr hlk hP hS d_Fl_begin_52 (by first | exact ⟨rfl, Or.inl ⟨(by first | assumption | omega), rfl⟩⟩ | exact ⟨rfl, Or.inr ⟨(by first | assumption | omega), rfl⟩⟩)
  · skip
    refine lv_iconst (v := nI 1) hx hb d_Fl_begin_26 (by decide) ?_
    refine lv_goto (tgt := 32) hx hb d_Fl_begin_27 (by decide) ?_
    refine gm_put (C := R_Fl) (T := F_Fl) (n := 8) (ty := .int) hx hb htl i_Fl t_Fl tk_Fl n_Fl hown hK hP hS h_7 rfl 4 (by decide) (htl _ k_136) (fun _ h => h) rfl (tk_Fl 4 (by decide)) rfl rfl (Nat.le_of_ble_eq_true rfl) d_Fl_begin_32 (fun H locs hP hS => ?_)
    have he_17 : gm_up (gm_up M x (.inr (2, [.int (nI pr2), .int (nI ins2), .int (nI out2), .int (nI pub2), .int (nI st), .int (nI la), .int (nI op), .int (nI cl)]))) x (.inr (2, [.int (nI pr2), .int (nI ins2), .int (nI out2), .int (nI pub2), .int (nI 1), .int (nI la), .int (nI op), .int (nI cl)])) = gm_up M x (.inr (2, [.int (nI pr2), .int (nI ins2), .int (nI out2), .int (nI pub2), .int (nI 1), .int (nI la), .int (nI op), .int (nI cl)])) := gm_up_up _ _ _ _
    have hP := Eq.mp (congrArg (fun Z => gm_P D cls A N Z H) he_17) hP
    have h_18 := (congrFun he_17 _).symm.trans (gm_up_self (gm_up M x (.inr (2, [.int (nI pr2), .int (nI ins2), .int (nI out2), .int (nI pub2), .int (nI st), .int (nI la), .int (nI op), .int (nI cl)]))) x (.inr (2, [.int (nI pr2), .int (nI ins2), .int (nI out2), .int (nI pub2), .int (nI 1), .int (nI la), .int (nI op), .int (nI cl)])))
    refine lv_aload_n hx hb d_Fl_begin_35 rfl (lv_at hl 0 rfl) ?_
    refine lv_iload hx hb d_Fl_begin_36 (lv_at hl 6 rfl) ?_
    refine gm_put (C := R_Fl) (T := F_Fl) (n := 8) (ty := .int) hx hb htl i_Fl t_Fl tk_Fl n_Fl hown hK hP hS h_18 rfl 5 (by decide) (htl _ k_138) (fun _ h => h) rfl (tk_Fl 5 (by decide)) rfl rfl (Nat.le_of_ble_eq_true rfl) d_Fl_begin_38 (fun H locs hP hS => ?_)
    have he_19 : gm_up (gm_up M x (.inr (2, [.int (nI pr2), .int (nI ins2), .int (nI out2), .int (nI pub2), .int (nI 1), .int (nI la), .int (nI op), .int (nI cl)]))) x (.inr (2, [.int (nI pr2), .int (nI ins2), .int (nI out2), .int (nI pub2), .int (nI 1), .int (nI tm), .int (nI op), .int (nI cl)])) = gm_up M x (.inr (2, [.int (nI pr2), .int (nI ins2), .int (nI out2), .int (nI pub2), .int (nI 1), .int (nI tm), .int (nI op), .int (nI cl)])) := gm_up_up _ _ _ _
    have hP := Eq.mp (congrArg (fun Z => gm_P D cls A N Z H) he_19) hP
    have h_20 := (congrFun he_19 _).symm.trans (gm_up_self (gm_up M x (.inr (2, [.int (nI pr2), .int (nI ins2), .int (nI out2), .int (nI pub2), .int (nI 1), .int (nI la), .int (nI op), .int (nI cl)]))) x (.inr (2, [.int (nI pr2), .int (nI ins2), .int (nI out2), .int (nI pub2), .int (nI 1), .int (nI tm), .int (nI op), .int (nI cl)])))
    refine lv_aload_n hx hb d_Fl_begin_41 rfl (lv_at hl 0 rfl) ?_
    refine lv_iload hx hb d_Fl_begin_42 (lv_at hl 5 rfl) ?_
    refine gm_put (C := R_Fl) (T := F_Fl) (n := 8) (ty := .boolean) hx hb htl i_Fl t_Fl tk_Fl n_Fl hown hK hP hS h_20 rfl 6 (by decide) (htl _ k_139) (fun _ h => h) rfl (tk_Fl 6 (by decide)) (nbz b hb0).1 (nbz b hb0).2 (Nat.le_of_ble_eq_true rfl) d_Fl_begin_44 (fun H locs hP hS => ?_)
    have he_21 : gm_up (gm_up M x (.inr (2, [.int (nI pr2), .int (nI ins2), .int (nI out2), .int (nI pub2), .int (nI 1), .int (nI tm), .int (nI op), .int (nI cl)]))) x (.inr (2, [.int (nI pr2), .int (nI ins2), .int (nI out2), .int (nI pub2), .int (nI 1), .int (nI tm), .int (nI b), .int (nI cl)])) = gm_up M x (.inr (2, [.int (nI pr2), .int (nI ins2), .int (nI out2), .int (nI pub2), .int (nI 1), .int (nI tm), .int (nI b), .int (nI cl)])) := gm_up_up _ _ _ _
    have hP := Eq.mp (congrArg (fun Z => gm_P D cls A N Z H) he_21) hP
    have h_22 := (congrFun he_21 _).symm.trans (gm_up_self (gm_up M x (.inr (2, [.int (nI pr2), .int (nI ins2), .int (nI out2), .int (nI pub2), .int (nI 1), .int (nI tm), .int (nI op), .int (nI cl)]))) x (.inr (2, [.int (nI pr2), .int (nI ins2), .int (nI out2), .int (nI pub2), .int (nI 1), .int (nI tm), .int (nI b), .int (nI cl)])))
    refine lv_aload_n hx hb d_Fl_begin_47 rfl (lv_at hl 0 rfl) ?_
    refine lv_iconst (v := nI 0) hx hb d_Fl_begin_48 (by decide) ?_
    refine gm_put (C := R_Fl) (T := F_Fl) (n := 8) (ty := .boolean) hx hb htl i_Fl t_Fl tk_Fl n_Fl hown hK hP hS h_22 rfl 7 (by decide) (htl _ k_140) (fun _ h => h) rfl (tk_Fl 7 (by decide)) rfl rfl (Nat.le_of_ble_eq_true rfl) d_Fl_begin_49 (fun H locs hP hS => ?_)
    have he_23 : gm_up (gm_up M x (.inr (2, [.int (nI pr2), .int (nI ins2), .int (nI out2), .int (nI pub2), .int (nI 1), .int (nI tm), .int (nI b), .int (nI cl)]))) x (.inr (2, [.int (nI pr2), .int (nI ins2), .int (nI out2), .int (nI pub2), .int (nI 1), .int (nI tm), .int (nI b), .int (nI 0)])) = gm_up M x (.inr (2, [.int (nI pr2), .int (nI ins2), .int (nI out2), .int (nI pub2), .int (nI 1), .int (nI tm), .int (nI b), .int (nI 0)])) := gm_up_up _ _ _ _
    have hP := Eq.mp (congrArg (fun Z => gm_P D cls A N Z H) he_23) hP
    have h_24 := (congrFun he_23 _).symm.trans (gm_up_self (gm_up M x (.inr (2, [.int (nI pr2), .int (nI ins2), .int (nI out2), .int (nI pub2), .int (nI 1), .int (nI tm), .int (nI b), .int (nI cl)]))) x (.inr (2, [.int (nI pr2), .int (nI ins2), .int (nI out2), .int (nI pub2), .int (nI 1), .int (nI tm), .int (nI b), .int (nI 0)])))
    exact gc_vret hx hb hr hlk hP hS d_Fl_begin_52 (by first | exact ⟨rfl, Or.inl ⟨(by first | assumption | omega), rfl⟩⟩ | exact ⟨rfl, Or.inr ⟨(by first | assumption | omega), rfl⟩⟩)
set_option maxHeartbeats 4000000 in
set_option maxRecDepth 100000 in
theorem c_Fl_afterBegun (o f : Nat) (ho : o ≤ 1) (hf : f < 65536) : gC l D ca A G y_Fl_afterBegun (.code y_Fl_afterBegun b_Fl_afterBegun 2 (some .int)) ({ frames := 0, cells := 0, slots := 0, locals := 0 }) N M [.int (nI o), .int (nI f)] gm_i (fun (r : Int32) (N1 : Nat) (M1 : gm_M) => N = N1 ∧ (((¬ o = 0 ∧ f = 1) ∧ M = M1 ∧ nI 1 = r) ∨ ((o = 0 ∧ f = 3) ∧ M = M1 ∧ nI 2 = r) ∨ ((¬ (¬ o = 0 ∧ f = 1) ∧ ¬ (o = 0 ∧ f = 3)) ∧ M = M1 ∧ (-1) = r))) := by
  refine gm_body (by decide) (Nat.le_of_ble_eq_true rfl) (fun p e s m below meth c ls hx hb hr hts hown hlk hml hnm hP hK hN hX hS hl => ?_)
  have htl : ∀ w ∈ LW, w.before _ s = true := fun w h => hts w (List.mem_cons_of_mem _ h)
  have hown : s.vm.findClass "PacketGate$Flow" = some m.cls := hown
  have hl : lv_has ls 2 [(0, .int (nI o)), (1, .int (nI f))] := hl
  refine lv_iload_n hx hb d_Fl_afterBegun_0 rfl (lv_at hl 0 rfl) ?_
  refine lz_eq (tgt := 15) hx hb d_Fl_afterBegun_1 (by decide) (by omega) (fun c_1 => ?_) (fun c_1 => ?_)
  · skip
    refine lv_iload_n hx hb d_Fl_afterBegun_15 rfl (lv_at hl 1 rfl) ?_
    refine lv_iconst (v := nI 3) hx hb d_Fl_afterBegun_16 (by decide) ?_
    refine ln_ne (tgt := 24) hx hb d_Fl_afterBegun_17 (by decide) (by omega) (by omega) (fun c_2 => ?_) (fun c_2 => ?_)
    · skip
      refine lv_iconst (v := (-1)) hx hb d_Fl_afterBegun_24 (by decide) ?_
      exact gc_iret hx hb hr hlk hP hS d_Fl_afterBegun_25 (by first | exact ⟨rfl, Or.inl ⟨(by first | assumption | omega), rfl, rfl⟩⟩ | exact ⟨rfl, Or.inr (Or.inl ⟨(by first | assumption | omega), rfl, rfl⟩)⟩ | exact ⟨rfl, Or.inr (Or.inr ⟨(by first | assumption | omega), rfl, rfl⟩)⟩)
    · skip
      refine lv_iconst (v := nI 2) hx hb d_Fl_afterBegun_20 (by decide) ?_
      refine lv_goto (tgt := 25) hx hb d_Fl_afterBegun_21 (by decide) ?_
      exact gc_iret hx hb hr hlk hP hS d_Fl_afterBegun_25 (by first | exact ⟨rfl, Or.inl ⟨(by first | assumption | omega), rfl, rfl⟩⟩ | exact ⟨rfl, Or.inr (Or.inl ⟨(by first | assumption | omega), rfl, rfl⟩)⟩ | exact ⟨rfl, Or.inr (Or.inr ⟨(by first | assumption | omega), rfl, rfl⟩)⟩)
  · skip
    refine lv_iload_n hx hb d_Fl_afterBegun_4 rfl (lv_at hl 1 rfl) ?_
    refine lv_iconst (v := nI 1) hx hb d_Fl_afterBegun_5 (by decide) ?_
    refine ln_ne (tgt := 13) hx hb d_Fl_afterBegun_6 (by decide) (by omega) (by omega) (fun c_3 => ?_) (fun c_3 => ?_)
    · skip
      refine lv_iconst (v := (-1)) hx hb d_Fl_afterBegun_13 (by decide) ?_
      exact gc_iret hx hb hr hlk hP hS d_Fl_afterBegun_14 (by first | exact ⟨rfl, Or.inl ⟨(by first | assumption | omega), rfl, rfl⟩⟩ | exact ⟨rfl, Or.inr (Or.inl ⟨(by first | assumption | omega), rfl, rfl⟩)⟩ | exact ⟨rfl, Or.inr (Or.inr ⟨(by first | assumption | omega), rfl, rfl⟩)⟩)
    · skip
      refine lv_iconst (v := nI 1) hx hb d_Fl_afterBegun_9 (by decide) ?_
      refine lv_goto (tgt := 14) hx hb d_Fl_afterBegun_10 (by decide) ?_
      exact gc_iret hx hb hr hlk hP hS d_Fl_afterBegun_14 (by first | exact ⟨rfl, Or.inl ⟨(by first | assumption | omega), rfl, rfl⟩⟩ | exact ⟨rfl, Or.inr (Or.inl ⟨(by first | assumption | omega), rfl, rfl⟩)⟩ | exact ⟨rfl, Or.inr (Or.inr ⟨(by first | assumption | omega), rfl, rfl⟩)⟩)
set_option maxHeartbeats 4000000 in
set_option maxRecDepth 100000 in
theorem c_Fl_afterAnswered (o f : Nat) (ho : o ≤ 1) (hf : f < 65536) : gC l D ca A G y_Fl_afterAnswered (.code y_Fl_afterAnswered b_Fl_afterAnswered 2 (some .int)) ({ frames := 0, cells := 0, slots := 0, locals := 0 }) N M [.int (nI o), .int (nI f)] gm_i (fun (r : Int32) (N1 : Nat) (M1 : gm_M) => N = N1 ∧ (((o = 0 ∧ f = 3) ∧ M = M1 ∧ nI 2 = r) ∨ ((¬ o = 0 ∧ ¬ f &&& 2 = 0 ∧ f &&& 1 = 0 ∧ ¬ f &&& 4 = 0) ∧ M = M1 ∧ nI 4 = r) ∨ ((¬ o = 0 ∧ ¬ f &&& 2 = 0 ∧ f &&& 1 = 0 ∧ f &&& 4 = 0) ∧ M = M1 ∧ nI 3 = r) ∨ (((o = 0 ∧ ¬ f = 3) ∨ (¬ o = 0 ∧ (f &&& 2 = 0 ∨ ¬ f &&& 1 = 0))) ∧ M = M1 ∧ (-1) = r))) := by
  refine gm_body (by decide) (Nat.le_of_ble_eq_true rfl) (fun p e s m below meth c ls hx hb hr hts hown hlk hml hnm hP hK hN hX hS hl => ?_)
  have htl : ∀ w ∈ LW, w.before _ s = true := fun w h => hts w (List.mem_cons_of_mem _ h)
  have hown : s.vm.findClass "PacketGate$Flow" = some m.cls := hown
  have hl : lv_has ls 2 [(0, .int (nI o)), (1, .int (nI f))] := hl
  have hA1 := and_lt f 1 (by decide)
  have hA2 := and_lt f 2 (by decide)
  have hA4 := and_lt f 4 (by decide)
  have hA8 := and_lt f 8 (by decide)
  refine lv_iload_n hx hb d_Fl_afterAnswered_0 rfl (lv_at hl 0 rfl) ?_
  refine lz_ne (tgt := 15) hx hb d_Fl_afterAnswered_1 (by decide) (by omega) (fun c_1 => ?_) (fun c_1 => ?_)
  · skip
    refine lv_iload_n hx hb d_Fl_afterAnswered_15 rfl (lv_at hl 1 rfl) ?_
    refine lv_iconst (v := nI 2) hx hb d_Fl_afterAnswered_16 (by decide) ?_
    refine lv_iand hx hb d_Fl_afterAnswered_17 ?_
    rw [show (nI f) &&& (nI 2) = nI (f &&& 2) from nx_and _ _]
    refine lz_eq (tgt := 27) hx hb d_Fl_afterAnswered_18 (by decide) (by omega) (fun c_2 => ?_) (fun c_2 => ?_)
    · skip
      refine lv_iconst (v := (-1)) hx hb d_Fl_afterAnswered_27 (by decide) ?_
      exact gc_iret hx hb hr hlk hP hS d_Fl_afterAnswered_28 (by first | exact ⟨rfl, Or.inl ⟨(by first | assumption | omega), rfl, rfl⟩⟩ | exact ⟨rfl, Or.inr (Or.inl ⟨(by first | assumption | omega), rfl, rfl⟩)⟩ | exact ⟨rfl, Or.inr (Or.inr (Or.inl ⟨(by first | assumption | omega), rfl, rfl⟩))⟩ | exact ⟨rfl, Or.inr (Or.inr (Or.inr ⟨(by first | assumption | omega), rfl, rfl⟩))⟩)
    · skip
      refine lv_iload_n hx hb d_Fl_afterAnswered_21 rfl (lv_at hl 1 rfl) ?_
      refine lv_iconst (v := nI 1) hx hb d_Fl_afterAnswered_22 (by decide) ?_
      refine lv_iand hx hb d_Fl_afterAnswered_23 ?_
      rw [show (nI f) &&& (nI 1) = nI (f &&& 1) from nx_and _ _]
      refine lz_eq (tgt := 29) hx hb d_Fl_afterAnswered_24 (by decide) (by omega) (fun c_3 => ?_) (fun c_3 => ?_)
      · skip
        refine lv_iload_n hx hb d_Fl_afterAnswered_29 rfl (lv_at hl 1 rfl) ?_
        refine lv_iconst (v := nI 4) hx hb d_Fl_afterAnswered_30 (by decide) ?_
        refine lv_iand hx hb d_Fl_afterAnswered_31 ?_
        rw [show (nI f) &&& (nI 4) = nI (f &&& 4) from nx_and _ _]
        refine lz_eq (tgt := 39) hx hb d_Fl_afterAnswered_32 (by decide) (by omega) (fun c_4 => ?_) (fun c_4 => ?_)
        · skip
          refine lv_iconst (v := nI 3) hx hb d_Fl_afterAnswered_39 (by decide) ?_
          exact gc_iret hx hb hr hlk hP hS d_Fl_afterAnswered_40 (by first | exact ⟨rfl, Or.inl ⟨(by first | assumption | omega), rfl, rfl⟩⟩ | exact ⟨rfl, Or.inr (Or.inl ⟨(by first | assumption | omega), rfl, rfl⟩)⟩ | exact ⟨rfl, Or.inr (Or.inr (Or.inl ⟨(by first | assumption | omega), rfl, rfl⟩))⟩ | exact ⟨rfl, Or.inr (Or.inr (Or.inr ⟨(by first | assumption | omega), rfl, rfl⟩))⟩)
        · skip
          refine lv_iconst (v := nI 4) hx hb d_Fl_afterAnswered_35 (by decide) ?_
          refine lv_goto (tgt := 40) hx hb d_Fl_afterAnswered_36 (by decide) ?_
          exact gc_iret hx hb hr hlk hP hS d_Fl_afterAnswered_40 (by first | exact ⟨rfl, Or.inl ⟨(by first | assumption | omega), rfl, rfl⟩⟩ | exact ⟨rfl, Or.inr (Or.inl ⟨(by first | assumption | omega), rfl, rfl⟩)⟩ | exact ⟨rfl, Or.inr (Or.inr (Or.inl ⟨(by first | assumption | omega), rfl, rfl⟩))⟩ | exact ⟨rfl, Or.inr (Or.inr (Or.inr ⟨(by first | assumption | omega), rfl, rfl⟩))⟩)
      · skip
        refine lv_iconst (v := (-1)) hx hb d_Fl_afterAnswered_27 (by decide) ?_
        exact gc_iret hx hb hr hlk hP hS d_Fl_afterAnswered_28 (by first | exact ⟨rfl, Or.inl ⟨(by first | assumption | omega), rfl, rfl⟩⟩ | exact ⟨rfl, Or.inr (Or.inl ⟨(by first | assumption | omega), rfl, rfl⟩)⟩ | exact ⟨rfl, Or.inr (Or.inr (Or.inl ⟨(by first | assumption | omega), rfl, rfl⟩))⟩ | exact ⟨rfl, Or.inr (Or.inr (Or.inr ⟨(by first | assumption | omega), rfl, rfl⟩))⟩)
  · skip
    refine lv_iload_n hx hb d_Fl_afterAnswered_4 rfl (lv_at hl 1 rfl) ?_
    refine lv_iconst (v := nI 3) hx hb d_Fl_afterAnswered_5 (by decide) ?_
    refine ln_ne (tgt := 13) hx hb d_Fl_afterAnswered_6 (by decide) (by omega) (by omega) (fun c_5 => ?_) (fun c_5 => ?_)
    · skip
      refine lv_iconst (v := (-1)) hx hb d_Fl_afterAnswered_13 (by decide) ?_
      exact gc_iret hx hb hr hlk hP hS d_Fl_afterAnswered_14 (by first | exact ⟨rfl, Or.inl ⟨(by first | assumption | omega), rfl, rfl⟩⟩ | exact ⟨rfl, Or.inr (Or.inl ⟨(by first | assumption | omega), rfl, rfl⟩)⟩ | exact ⟨rfl, Or.inr (Or.inr (Or.inl ⟨(by first | assumption | omega), rfl, rfl⟩))⟩ | exact ⟨rfl, Or.inr (Or.inr (Or.inr ⟨(by first | assumption | omega), rfl, rfl⟩))⟩)
    · skip
      refine lv_iconst (v := nI 2) hx hb d_Fl_afterAnswered_9 (by decide) ?_
      refine lv_goto (tgt := 14) hx hb d_Fl_afterAnswered_10 (by decide) ?_
      exact gc_iret hx hb hr hlk hP hS d_Fl_afterAnswered_14 (by first | exact ⟨rfl, Or.inl ⟨(by first | assumption | omega), rfl, rfl⟩⟩ | exact ⟨rfl, Or.inr (Or.inl ⟨(by first | assumption | omega), rfl, rfl⟩)⟩ | exact ⟨rfl, Or.inr (Or.inr (Or.inl ⟨(by first | assumption | omega), rfl, rfl⟩))⟩ | exact ⟨rfl, Or.inr (Or.inr (Or.inr ⟨(by first | assumption | omega), rfl, rfl⟩))⟩)
set_option maxHeartbeats 4000000 in
set_option maxRecDepth 100000 in
theorem c_Fl_afterOpen {x pr ins out pub st la op cl : Nat} {b f : Nat} (e1 : M x = some (.inr (2, [.int (nI pr), .int (nI ins), .int (nI out), .int (nI pub), .int (nI st), .int (nI la), .int (nI op), .int (nI cl)]))) (hpr : pr < 65536) (hst : st ≤ 7) (hop : op ≤ 1) (hcl : cl ≤ 1) (hb0 : b ≤ 1) (hf : f < 65536) : gC l D ca A G y_Fl_afterOpen (.code y_Fl_afterOpen b_Fl_afterOpen 3 (some .int)) ({ frames := 0, cells := 0, slots := 0, locals := 0 }) N M [.ref x, .int (nI b), .int (nI f)] gm_i (fun (r : Int32) (N1 : Nat) (M1 : gm_M) => N = N1 ∧ (((¬ f &&& 1 = 0) ∧ M = M1 ∧ (-1) = r) ∨ ((f &&& 1 = 0 ∧ f &&& 4 = 0) ∧ M = M1 ∧ nI st = r) ∨ ((f &&& 1 = 0 ∧ ¬ f &&& 4 = 0 ∧ (st = 3 ∨ (st = 4 ∧ b = cl))) ∧ M = M1 ∧ nI 4 = r) ∨ ((f &&& 1 = 0 ∧ ¬ f &&& 4 = 0 ∧ ¬ st = 3 ∧ ¬ (st = 4 ∧ b = cl)) ∧ M = M1 ∧ nI 5 = r))) := by
  refine gm_body (by decide) (Nat.le_of_ble_eq_true rfl) (fun p e s m below meth c ls hx hb hr hts hown hlk hml hnm hP hK hN hX hS hl => ?_)
  have htl : ∀ w ∈ LW, w.before _ s = true := fun w h => hts w (List.mem_cons_of_mem _ h)
  have hown : s.vm.findClass "PacketGate$Flow" = some m.cls := hown
  have hl : lv_has ls 3 [(0, .ref x), (1, .int (nI b)), (2, .int (nI f))] := hl
  have hA1 := and_lt f 1 (by decide)
  have hA2 := and_lt f 2 (by decide)
  have hA4 := and_lt f 4 (by decide)
  have hA8 := and_lt f 8 (by decide)
  refine lv_iload_n hx hb d_Fl_afterOpen_0 rfl (lv_at hl 2 rfl) ?_
  refine lv_iconst (v := nI 1) hx hb d_Fl_afterOpen_1 (by decide) ?_
  refine lv_iand hx hb d_Fl_afterOpen_2 ?_
  rw [show (nI f) &&& (nI 1) = nI (f &&& 1) from nx_and _ _]
  refine lz_eq (tgt := 8) hx hb d_Fl_afterOpen_3 (by decide) (by omega) (fun c_1 => ?_) (fun c_1 => ?_)
  · skip
    refine lv_iload_n hx hb d_Fl_afterOpen_8 rfl (lv_at hl 2 rfl) ?_
    refine lv_iconst (v := nI 4) hx hb d_Fl_afterOpen_9 (by decide) ?_
    refine lv_iand hx hb d_Fl_afterOpen_10 ?_
    rw [show (nI f) &&& (nI 4) = nI (f &&& 4) from nx_and _ _]
    refine lz_ne (tgt := 19) hx hb d_Fl_afterOpen_11 (by decide) (by omega) (fun c_2 => ?_) (fun c_2 => ?_)
    · skip
      refine lv_aload_n hx hb d_Fl_afterOpen_19 rfl (lv_at hl 0 rfl) ?_
      refine gm_get (C := R_Fl) (T := F_Fl) (n := 8) hx hb htl i_Fl hown hK hP e1 rfl 4 (by decide) (htl _ k_136) (fun _ h => h) rfl d_Fl_afterOpen_20 ?_
      refine lv_iconst (v := nI 3) hx hb d_Fl_afterOpen_23 (by decide) ?_
      refine ln_ne (tgt := 29) hx hb d_Fl_afterOpen_24 (by decide) (by omega) (by omega) (fun c_3 => ?_) (fun c_3 => ?_)
      · skip
        refine lv_aload_n hx hb d_Fl_afterOpen_29 rfl (lv_at hl 0 rfl) ?_
        refine gm_get (C := R_Fl) (T := F_Fl) (n := 8) hx hb htl i_Fl hown hK hP e1 rfl 4 (by decide) (htl _ k_136) (fun _ h => h) rfl d_Fl_afterOpen_30 ?_
        refine lv_iconst (v := nI 4) hx hb d_Fl_afterOpen_33 (by decide) ?_
        refine ln_ne (tgt := 49) hx hb d_Fl_afterOpen_34 (by decide) (by omega) (by omega) (fun c_4 => ?_) (fun c_4 => ?_)
        · skip
          refine lv_iconst (v := nI 5) hx hb d_Fl_afterOpen_49 (by decide) ?_
          exact gc_iret hx hb hr hlk hP hS d_Fl_afterOpen_50 (by first | exact ⟨rfl, Or.inl ⟨(by first | assumption | omega), rfl, rfl⟩⟩ | exact ⟨rfl, Or.inr (Or.inl ⟨(by first | assumption | omega), rfl, rfl⟩)⟩ | exact ⟨rfl, Or.inr (Or.inr (Or.inl ⟨(by first | assumption | omega), rfl, rfl⟩))⟩ | exact ⟨rfl, Or.inr (Or.inr (Or.inr ⟨(by first | assumption | omega), rfl, rfl⟩))⟩)
        · skip
          refine lv_iload_n hx hb d_Fl_afterOpen_37 rfl (lv_at hl 1 rfl) ?_
          refine lv_aload_n hx hb d_Fl_afterOpen_38 rfl (lv_at hl 0 rfl) ?_
          refine gm_get (C := R_Fl) (T := F_Fl) (n := 8) hx hb htl i_Fl hown hK hP e1 rfl 7 (by decide) (htl _ k_140) (fun _ h => h) rfl d_Fl_afterOpen_39 ?_
          refine ln_ne (tgt := 49) hx hb d_Fl_afterOpen_42 (by decide) (by omega) (by omega) (fun c_5 => ?_) (fun c_5 => ?_)
          · skip
            refine lv_iconst (v := nI 5) hx hb d_Fl_afterOpen_49 (by decide) ?_
            exact gc_iret hx hb hr hlk hP hS d_Fl_afterOpen_50 (by first | exact ⟨rfl, Or.inl ⟨(by first | assumption | omega), rfl, rfl⟩⟩ | exact ⟨rfl, Or.inr (Or.inl ⟨(by first | assumption | omega), rfl, rfl⟩)⟩ | exact ⟨rfl, Or.inr (Or.inr (Or.inl ⟨(by first | assumption | omega), rfl, rfl⟩))⟩ | exact ⟨rfl, Or.inr (Or.inr (Or.inr ⟨(by first | assumption | omega), rfl, rfl⟩))⟩)
          · skip
            refine lv_iconst (v := nI 4) hx hb d_Fl_afterOpen_45 (by decide) ?_
            refine lv_goto (tgt := 50) hx hb d_Fl_afterOpen_46 (by decide) ?_
            exact gc_iret hx hb hr hlk hP hS d_Fl_afterOpen_50 (by first | exact ⟨rfl, Or.inl ⟨(by first | assumption | omega), rfl, rfl⟩⟩ | exact ⟨rfl, Or.inr (Or.inl ⟨(by first | assumption | omega), rfl, rfl⟩)⟩ | exact ⟨rfl, Or.inr (Or.inr (Or.inl ⟨(by first | assumption | omega), rfl, rfl⟩))⟩ | exact ⟨rfl, Or.inr (Or.inr (Or.inr ⟨(by first | assumption | omega), rfl, rfl⟩))⟩)
      · skip
        refine lv_iconst (v := nI 4) hx hb d_Fl_afterOpen_27 (by decide) ?_
        exact gc_iret hx hb hr hlk hP hS d_Fl_afterOpen_28 (by first | exact ⟨rfl, Or.inl ⟨(by first | assumption | omega), rfl, rfl⟩⟩ | exact ⟨rfl, Or.inr (Or.inl ⟨(by first | assumption | omega), rfl, rfl⟩)⟩ | exact ⟨rfl, Or.inr (Or.inr (Or.inl ⟨(by first | assumption | omega), rfl, rfl⟩))⟩ | exact ⟨rfl, Or.inr (Or.inr (Or.inr ⟨(by first | assumption | omega), rfl, rfl⟩))⟩)
    · skip
      refine lv_aload_n hx hb d_Fl_afterOpen_14 rfl (lv_at hl 0 rfl) ?_
      refine gm_get (C := R_Fl) (T := F_Fl) (n := 8) hx hb htl i_Fl hown hK hP e1 rfl 4 (by decide) (htl _ k_136) (fun _ h => h) rfl d_Fl_afterOpen_15 ?_
      exact gc_iret hx hb hr hlk hP hS d_Fl_afterOpen_18 (by first | exact ⟨rfl, Or.inl ⟨(by first | assumption | omega), rfl, rfl⟩⟩ | exact ⟨rfl, Or.inr (Or.inl ⟨(by first | assumption | omega), rfl, rfl⟩)⟩ | exact ⟨rfl, Or.inr (Or.inr (Or.inl ⟨(by first | assumption | omega), rfl, rfl⟩))⟩ | exact ⟨rfl, Or.inr (Or.inr (Or.inr ⟨(by first | assumption | omega), rfl, rfl⟩))⟩)
  · skip
    refine lv_iconst (v := (-1)) hx hb d_Fl_afterOpen_6 (by decide) ?_
    exact gc_iret hx hb hr hlk hP hS d_Fl_afterOpen_7 (by first | exact ⟨rfl, Or.inl ⟨(by first | assumption | omega), rfl, rfl⟩⟩ | exact ⟨rfl, Or.inr (Or.inl ⟨(by first | assumption | omega), rfl, rfl⟩)⟩ | exact ⟨rfl, Or.inr (Or.inr (Or.inl ⟨(by first | assumption | omega), rfl, rfl⟩))⟩ | exact ⟨rfl, Or.inr (Or.inr (Or.inr ⟨(by first | assumption | omega), rfl, rfl⟩))⟩)
set_option maxHeartbeats 4000000 in
set_option maxRecDepth 100000 in
theorem c_Fl_stateAfter {x pr ins out pub st la op cl : Nat} {b f : Nat} (e1 : M x = some (.inr (2, [.int (nI pr), .int (nI ins), .int (nI out), .int (nI pub), .int (nI st), .int (nI la), .int (nI op), .int (nI cl)]))) (hpr : pr < 65536) (hst : st ≤ 7) (hop : op ≤ 1) (hcl : cl ≤ 1) (hb0 : b ≤ 1) (hf : f < 65536) : gC l D ca A G y_Fl_stateAfter (.code y_Fl_stateAfter b_Fl_stateAfter 4 (some .int)) ({ frames := 1, cells := 0, slots := 0, locals := 22 }) N M [.ref x, .int (nI b), .int (nI f)] gm_i (fun (r : Int32) (N1 : Nat) (M1 : gm_M) => N = N1 ∧ (((stA pr op cl st b f = none) ∧ M = M1 ∧ (-1) = r) ∨ (∃ (k : Nat), (stA pr op cl st b f = some k) ∧ (k ≤ 7) ∧ M = M1 ∧ nI k = r))) := by
  refine gm_body (by decide) (Nat.le_of_ble_eq_true rfl) (fun p e s m below meth c ls hx hb hr hts hown hlk hml hnm hP hK hN hX hS hl => ?_)
  have htl : ∀ w ∈ LW, w.before _ s = true := fun w h => hts w (List.mem_cons_of_mem _ h)
  have hown : s.vm.findClass "PacketGate$Flow" = some m.cls := hown
  have hl : lv_has ls 4 [(0, .ref x), (1, .int (nI b)), (2, .int (nI f))] := hl
  have hA1 := and_lt f 1 (by decide)
  have hA2 := and_lt f 2 (by decide)
  have hA4 := and_lt f 4 (by decide)
  have hA8 := and_lt f 8 (by decide)
  refine lv_iload_n hx hb d_Fl_stateAfter_0 rfl (lv_at hl 1 rfl) ?_
  refine lv_aload_n hx hb d_Fl_stateAfter_1 rfl (lv_at hl 0 rfl) ?_
  refine gm_get (C := R_Fl) (T := F_Fl) (n := 8) hx hb htl i_Fl hown hK hP e1 rfl 6 (by decide) (htl _ k_139) (fun _ h => h) rfl d_Fl_stateAfter_2 ?_
  refine ln_ne (tgt := 12) hx hb d_Fl_stateAfter_5 (by decide) (by omega) (by omega) (fun c_1 => ?_) (fun c_1 => ?_)
  · skip
    refine lv_iconst (v := nI 0) hx hb d_Fl_stateAfter_12 (by decide) ?_
    refine lv_istore_n (lv' := [(3, .int (nI 0)), (0, .ref x), (1, .int (nI b)), (2, .int (nI f))]) hx hb d_Fl_stateAfter_13 rfl hl (by decide) rfl (fun ls hl => ?_)
    refine lv_aload_n hx hb d_Fl_stateAfter_14 rfl (lv_at hl 1 rfl) ?_
    refine gm_get (C := R_Fl) (T := F_Fl) (n := 8) hx hb htl i_Fl hown hK hP e1 rfl 0 (by decide) (htl _ k_127) (fun _ h => h) rfl d_Fl_stateAfter_15 ?_
    refine lz_eq (tgt := 35) hx hb d_Fl_stateAfter_18 (by decide) (by omega) (fun c_2 => ?_) (fun c_2 => ?_)
    · skip
      refine lv_iload_n hx hb d_Fl_stateAfter_35 rfl (lv_at hl 3 rfl) ?_
      refine lv_bipush (v := nI 8) hx hb d_Fl_stateAfter_36 (by decide) ?_
      refine lv_iand hx hb d_Fl_stateAfter_38 ?_
      rw [show (nI f) &&& (nI 8) = nI (f &&& 8) from nx_and _ _]
      refine lz_eq (tgt := 44) hx hb d_Fl_stateAfter_39 (by decide) (by omega) (fun c_3 => ?_) (fun c_3 => ?_)
      · skip
        refine lv_aload_n hx hb d_Fl_stateAfter_44 rfl (lv_at hl 1 rfl) ?_
        refine gm_get (C := R_Fl) (T := F_Fl) (n := 8) hx hb htl i_Fl hown hK hP e1 rfl 4 (by decide) (htl _ k_136) (fun _ h => h) rfl d_Fl_stateAfter_45 ?_
        refine lv_iconst (v := nI 1) hx hb d_Fl_stateAfter_48 (by decide) ?_
        refine ln_ne (tgt := 58) hx hb d_Fl_stateAfter_49 (by decide) (by omega) (by omega) (fun c_4 => ?_) (fun c_4 => ?_)
        · skip
          refine lv_aload_n hx hb d_Fl_stateAfter_58 rfl (lv_at hl 1 rfl) ?_
          refine gm_get (C := R_Fl) (T := F_Fl) (n := 8) hx hb htl i_Fl hown hK hP e1 rfl 4 (by decide) (htl _ k_136) (fun _ h => h) rfl d_Fl_stateAfter_59 ?_
          refine lv_iconst (v := nI 2) hx hb d_Fl_stateAfter_62 (by decide) ?_
          refine ln_ne (tgt := 72) hx hb d_Fl_stateAfter_63 (by decide) (by omega) (by omega) (fun c_5 => ?_) (fun c_5 => ?_)
          · skip
            refine lv_aload_n hx hb d_Fl_stateAfter_72 rfl (lv_at hl 1 rfl) ?_
            refine lv_iload_n hx hb d_Fl_stateAfter_73 rfl (lv_at hl 2 rfl) ?_
            refine lv_iload_n hx hb d_Fl_stateAfter_74 rfl (lv_at hl 3 rfl) ?_
            refine gc_V (q := (R_Fl, F_Fl, 8)) (n := 2) [.int (nI b), .int (nI f)] [] hx hb hml hown hts hK hN hX hP hS (c_Fl_afterOpen e1 (by omega) (by omega) (by omega) (by omega) (by omega) (by omega)) rfl e1 k_593 k_595 ks_Fl_afterOpen k_8 k_596 (by decide +kernel) ⟨by decide, by decide⟩ rfl hl.1 rfl (Nat.le_of_ble_eq_true rfl) d_Fl_stateAfter_75 ⟨by decide, by decide⟩ (fun r N1 M_6 H locs hw hP hS => ?_)
            obtain ⟨rfl, hw⟩ := hw
            rcases hw with ⟨c_7, rfl, rfl⟩ | ⟨c_8, rfl, rfl⟩ | ⟨c_9, rfl, rfl⟩ | ⟨c_10, rfl, rfl⟩
            · skip
              refine W.eq (g2 := F0 m 78 ls [.int (-1)]) rfl ?_
              exact gc_iret hx hb hr hlk hP hS d_Fl_stateAfter_78 ⟨rfl, Or.inl ⟨(by first | (exfalso; omega) | (unfold stA; (repeat (first | rw [if_pos (by omega)] | rw [if_neg (by omega)])) <;> first | rfl | (split <;> first | rfl | (exfalso; omega) | (split <;> first | rfl | (exfalso; omega))))), rfl, rfl⟩⟩
            · skip
              refine W.eq (g2 := F0 m 78 ls [.int (nI st)]) rfl ?_
              exact gc_iret hx hb hr hlk hP hS d_Fl_stateAfter_78 ⟨rfl, Or.inr ⟨st, (by first | (exfalso; omega) | (unfold stA; (repeat (first | rw [if_pos (by omega)] | rw [if_neg (by omega)])) <;> first | rfl | (split <;> first | rfl | (exfalso; omega) | (split <;> first | rfl | (exfalso; omega))))), (by omega), rfl, rfl⟩⟩
            · skip
              refine W.eq (g2 := F0 m 78 ls [.int (nI 4)]) rfl ?_
              exact gc_iret hx hb hr hlk hP hS d_Fl_stateAfter_78 ⟨rfl, Or.inr ⟨4, (by first | (exfalso; omega) | (unfold stA; (repeat (first | rw [if_pos (by omega)] | rw [if_neg (by omega)])) <;> first | rfl | (split <;> first | rfl | (exfalso; omega) | (split <;> first | rfl | (exfalso; omega))))), (by omega), rfl, rfl⟩⟩
            · skip
              refine W.eq (g2 := F0 m 78 ls [.int (nI 5)]) rfl ?_
              exact gc_iret hx hb hr hlk hP hS d_Fl_stateAfter_78 ⟨rfl, Or.inr ⟨5, (by first | (exfalso; omega) | (unfold stA; (repeat (first | rw [if_pos (by omega)] | rw [if_neg (by omega)])) <;> first | rfl | (split <;> first | rfl | (exfalso; omega) | (split <;> first | rfl | (exfalso; omega))))), (by omega), rfl, rfl⟩⟩
          · skip
            refine lv_iload_n hx hb d_Fl_stateAfter_66 rfl (lv_at hl 0 rfl) ?_
            refine lv_iload_n hx hb d_Fl_stateAfter_67 rfl (lv_at hl 3 rfl) ?_
            refine gc_S (n := 2) [.int (nI 0), .int (nI f)] [] hx hb hml hown hts hK hN hX hP hS (c_Fl_afterAnswered 0 f (by omega) (by omega)) k_590 k_591 k_8 k_592 (by decide +kernel) ⟨by decide, by decide⟩ rfl hl.1 rfl (Nat.le_of_ble_eq_true rfl) d_Fl_stateAfter_68 ⟨by decide, by decide⟩ (fun r N1 M_11 H locs hw hP hS => ?_)
            obtain ⟨rfl, hw⟩ := hw
            rcases hw with ⟨c_12, rfl, rfl⟩ | ⟨c_13, rfl, rfl⟩ | ⟨c_14, rfl, rfl⟩ | ⟨c_15, rfl, rfl⟩
            · skip
              refine W.eq (g2 := F0 m 71 ls [.int (nI 2)]) rfl ?_
              exact gc_iret hx hb hr hlk hP hS d_Fl_stateAfter_71 ⟨rfl, Or.inr ⟨2, (by first | (exfalso; omega) | (unfold stA; (repeat (first | rw [if_pos (by omega)] | rw [if_neg (by omega)])) <;> first | rfl | (split <;> first | rfl | (exfalso; omega) | (split <;> first | rfl | (exfalso; omega))))), (by omega), rfl, rfl⟩⟩
            · skip
              refine W.eq (g2 := F0 m 71 ls [.int (nI 4)]) rfl ?_
              exact gc_iret hx hb hr hlk hP hS d_Fl_stateAfter_71 ⟨rfl, Or.inr ⟨4, (by first | (exfalso; omega) | (unfold stA; (repeat (first | rw [if_pos (by omega)] | rw [if_neg (by omega)])) <;> first | rfl | (split <;> first | rfl | (exfalso; omega) | (split <;> first | rfl | (exfalso; omega))))), (by omega), rfl, rfl⟩⟩
            · skip
              refine W.eq (g2 := F0 m 71 ls [.int (nI 3)]) rfl ?_
              exact gc_iret hx hb hr hlk hP hS d_Fl_stateAfter_71 ⟨rfl, Or.inr ⟨3, (by first | (exfalso; omega) | (unfold stA; (repeat (first | rw [if_pos (by omega)] | rw [if_neg (by omega)])) <;> first | rfl | (split <;> first | rfl | (exfalso; omega) | (split <;> first | rfl | (exfalso; omega))))), (by omega), rfl, rfl⟩⟩
            · skip
              refine W.eq (g2 := F0 m 71 ls [.int (-1)]) rfl ?_
              exact gc_iret hx hb hr hlk hP hS d_Fl_stateAfter_71 ⟨rfl, Or.inl ⟨(by first | (exfalso; omega) | (unfold stA; (repeat (first | rw [if_pos (by omega)] | rw [if_neg (by omega)])) <;> first | rfl | (split <;> first | rfl | (exfalso; omega) | (split <;> first | rfl | (exfalso; omega))))), rfl, rfl⟩⟩
        · skip
          refine lv_iload_n hx hb d_Fl_stateAfter_52 rfl (lv_at hl 0 rfl) ?_
          refine lv_iload_n hx hb d_Fl_stateAfter_53 rfl (lv_at hl 3 rfl) ?_
          refine gc_S (n := 2) [.int (nI 0), .int (nI f)] [] hx hb hml hown hts hK hN hX hP hS (c_Fl_afterBegun 0 f (by omega) (by omega)) k_587 k_588 k_8 k_589 (by decide +kernel) ⟨by decide, by decide⟩ rfl hl.1 rfl (Nat.le_of_ble_eq_true rfl) d_Fl_stateAfter_54 ⟨by decide, by decide⟩ (fun r N1 M_16 H locs hw hP hS => ?_)
          obtain ⟨rfl, hw⟩ := hw
          rcases hw with ⟨c_17, rfl, rfl⟩ | ⟨c_18, rfl, rfl⟩ | ⟨c_19, rfl, rfl⟩
          · skip
            refine W.eq (g2 := F0 m 57 ls [.int (nI 1)]) rfl ?_
            exact gc_iret hx hb hr hlk hP hS d_Fl_stateAfter_57 ⟨rfl, Or.inr ⟨1, (by first | (exfalso; omega) | (unfold stA; (repeat (first | rw [if_pos (by omega)] | rw [if_neg (by omega)])) <;> first | rfl | (split <;> first | rfl | (exfalso; omega) | (split <;> first | rfl | (exfalso; omega))))), (by omega), rfl, rfl⟩⟩
          · skip
            refine W.eq (g2 := F0 m 57 ls [.int (nI 2)]) rfl ?_
            exact gc_iret hx hb hr hlk hP hS d_Fl_stateAfter_57 ⟨rfl, Or.inr ⟨2, (by first | (exfalso; omega) | (unfold stA; (repeat (first | rw [if_pos (by omega)] | rw [if_neg (by omega)])) <;> first | rfl | (split <;> first | rfl | (exfalso; omega) | (split <;> first | rfl | (exfalso; omega))))), (by omega), rfl, rfl⟩⟩
          · skip
            refine W.eq (g2 := F0 m 57 ls [.int (-1)]) rfl ?_
            exact gc_iret hx hb hr hlk hP hS d_Fl_stateAfter_57 ⟨rfl, Or.inl ⟨(by first | (exfalso; omega) | (unfold stA; (repeat (first | rw [if_pos (by omega)] | rw [if_neg (by omega)])) <;> first | rfl | (split <;> first | rfl | (exfalso; omega) | (split <;> first | rfl | (exfalso; omega))))), rfl, rfl⟩⟩
      · skip
        refine lv_iconst (v := nI 0) hx hb d_Fl_stateAfter_42 (by decide) ?_
        exact gc_iret hx hb hr hlk hP hS d_Fl_stateAfter_43 ⟨rfl, Or.inr ⟨0, (by first | (exfalso; omega) | (unfold stA; (repeat (first | rw [if_pos (by omega)] | rw [if_neg (by omega)])) <;> first | rfl | (split <;> first | rfl | (exfalso; omega) | (split <;> first | rfl | (exfalso; omega))))), (by omega), rfl, rfl⟩⟩
    · skip
      refine lv_iload_n hx hb d_Fl_stateAfter_21 rfl (lv_at hl 0 rfl) ?_
      refine lv_if_eq (tgt := 32) hx hb d_Fl_stateAfter_22 (by decide) (fun _ => ?_) (fun q => absurd q (by decide))
      refine lv_bipush (v := nI 7) hx hb d_Fl_stateAfter_32 (by decide) ?_
      exact gc_iret hx hb hr hlk hP hS d_Fl_stateAfter_34 ⟨rfl, Or.inr ⟨7, (by first | (exfalso; omega) | (unfold stA; (repeat (first | rw [if_pos (by omega)] | rw [if_neg (by omega)])) <;> first | rfl | (split <;> first | rfl | (exfalso; omega) | (split <;> first | rfl | (exfalso; omega))))), (by omega), rfl, rfl⟩⟩
  · skip
    refine lv_iconst (v := nI 1) hx hb d_Fl_stateAfter_8 (by decide) ?_
    refine lv_goto (tgt := 13) hx hb d_Fl_stateAfter_9 (by decide) ?_
    refine lv_istore_n (lv' := [(3, .int (nI 1)), (0, .ref x), (1, .int (nI b)), (2, .int (nI f))]) hx hb d_Fl_stateAfter_13 rfl hl (by decide) rfl (fun ls hl => ?_)
    refine lv_aload_n hx hb d_Fl_stateAfter_14 rfl (lv_at hl 1 rfl) ?_
    refine gm_get (C := R_Fl) (T := F_Fl) (n := 8) hx hb htl i_Fl hown hK hP e1 rfl 0 (by decide) (htl _ k_127) (fun _ h => h) rfl d_Fl_stateAfter_15 ?_
    refine lz_eq (tgt := 35) hx hb d_Fl_stateAfter_18 (by decide) (by omega) (fun c_20 => ?_) (fun c_20 => ?_)
    · skip
      refine lv_iload_n hx hb d_Fl_stateAfter_35 rfl (lv_at hl 3 rfl) ?_
      refine lv_bipush (v := nI 8) hx hb d_Fl_stateAfter_36 (by decide) ?_
      refine lv_iand hx hb d_Fl_stateAfter_38 ?_
      rw [show (nI f) &&& (nI 8) = nI (f &&& 8) from nx_and _ _]
      refine lz_eq (tgt := 44) hx hb d_Fl_stateAfter_39 (by decide) (by omega) (fun c_21 => ?_) (fun c_21 => ?_)
      · skip
        refine lv_aload_n hx hb d_Fl_stateAfter_44 rfl (lv_at hl 1 rfl) ?_
        refine gm_get (C := R_Fl) (T := F_Fl) (n := 8) hx hb htl i_Fl hown hK hP e1 rfl 4 (by decide) (htl _ k_136) (fun _ h => h) rfl d_Fl_stateAfter_45 ?_
        refine lv_iconst (v := nI 1) hx hb d_Fl_stateAfter_48 (by decide) ?_
        refine ln_ne (tgt := 58) hx hb d_Fl_stateAfter_49 (by decide) (by omega) (by omega) (fun c_22 => ?_) (fun c_22 => ?_)
        · skip
          refine lv_aload_n hx hb d_Fl_stateAfter_58 rfl (lv_at hl 1 rfl) ?_
          refine gm_get (C := R_Fl) (T := F_Fl) (n := 8) hx hb htl i_Fl hown hK hP e1 rfl 4 (by decide) (htl _ k_136) (fun _ h => h) rfl d_Fl_stateAfter_59 ?_
          refine lv_iconst (v := nI 2) hx hb d_Fl_stateAfter_62 (by decide) ?_
          refine ln_ne (tgt := 72) hx hb d_Fl_stateAfter_63 (by decide) (by omega) (by omega) (fun c_23 => ?_) (fun c_23 => ?_)
          · skip
            refine lv_aload_n hx hb d_Fl_stateAfter_72 rfl (lv_at hl 1 rfl) ?_
            refine lv_iload_n hx hb d_Fl_stateAfter_73 rfl (lv_at hl 2 rfl) ?_
            refine lv_iload_n hx hb d_Fl_stateAfter_74 rfl (lv_at hl 3 rfl) ?_
            refine gc_V (q := (R_Fl, F_Fl, 8)) (n := 2) [.int (nI b), .int (nI f)] [] hx hb hml hown hts hK hN hX hP hS (c_Fl_afterOpen e1 (by omega) (by omega) (by omega) (by omega) (by omega) (by omega)) rfl e1 k_593 k_595 ks_Fl_afterOpen k_8 k_596 (by decide +kernel) ⟨by decide, by decide⟩ rfl hl.1 rfl (Nat.le_of_ble_eq_true rfl) d_Fl_stateAfter_75 ⟨by decide, by decide⟩ (fun r N1 M_24 H locs hw hP hS => ?_)
            obtain ⟨rfl, hw⟩ := hw
            rcases hw with ⟨c_25, rfl, rfl⟩ | ⟨c_26, rfl, rfl⟩ | ⟨c_27, rfl, rfl⟩ | ⟨c_28, rfl, rfl⟩
            · skip
              refine W.eq (g2 := F0 m 78 ls [.int (-1)]) rfl ?_
              exact gc_iret hx hb hr hlk hP hS d_Fl_stateAfter_78 ⟨rfl, Or.inl ⟨(by first | (exfalso; omega) | (unfold stA; (repeat (first | rw [if_pos (by omega)] | rw [if_neg (by omega)])) <;> first | rfl | (split <;> first | rfl | (exfalso; omega) | (split <;> first | rfl | (exfalso; omega))))), rfl, rfl⟩⟩
            · skip
              refine W.eq (g2 := F0 m 78 ls [.int (nI st)]) rfl ?_
              exact gc_iret hx hb hr hlk hP hS d_Fl_stateAfter_78 ⟨rfl, Or.inr ⟨st, (by first | (exfalso; omega) | (unfold stA; (repeat (first | rw [if_pos (by omega)] | rw [if_neg (by omega)])) <;> first | rfl | (split <;> first | rfl | (exfalso; omega) | (split <;> first | rfl | (exfalso; omega))))), (by omega), rfl, rfl⟩⟩
            · skip
              refine W.eq (g2 := F0 m 78 ls [.int (nI 4)]) rfl ?_
              exact gc_iret hx hb hr hlk hP hS d_Fl_stateAfter_78 ⟨rfl, Or.inr ⟨4, (by first | (exfalso; omega) | (unfold stA; (repeat (first | rw [if_pos (by omega)] | rw [if_neg (by omega)])) <;> first | rfl | (split <;> first | rfl | (exfalso; omega) | (split <;> first | rfl | (exfalso; omega))))), (by omega), rfl, rfl⟩⟩
            · skip
              refine W.eq (g2 := F0 m 78 ls [.int (nI 5)]) rfl ?_
              exact gc_iret hx hb hr hlk hP hS d_Fl_stateAfter_78 ⟨rfl, Or.inr ⟨5, (by first | (exfalso; omega) | (unfold stA; (repeat (first | rw [if_pos (by omega)] | rw [if_neg (by omega)])) <;> first | rfl | (split <;> first | rfl | (exfalso; omega) | (split <;> first | rfl | (exfalso; omega))))), (by omega), rfl, rfl⟩⟩
          · skip
            refine lv_iload_n hx hb d_Fl_stateAfter_66 rfl (lv_at hl 0 rfl) ?_
            refine lv_iload_n hx hb d_Fl_stateAfter_67 rfl (lv_at hl 3 rfl) ?_
            refine gc_S (n := 2) [.int (nI 1), .int (nI f)] [] hx hb hml hown hts hK hN hX hP hS (c_Fl_afterAnswered 1 f (by omega) (by omega)) k_590 k_591 k_8 k_592 (by decide +kernel) ⟨by decide, by decide⟩ rfl hl.1 rfl (Nat.le_of_ble_eq_true rfl) d_Fl_stateAfter_68 ⟨by decide, by decide⟩ (fun r N1 M_29 H locs hw hP hS => ?_)
            obtain ⟨rfl, hw⟩ := hw
            rcases hw with ⟨c_30, rfl, rfl⟩ | ⟨c_31, rfl, rfl⟩ | ⟨c_32, rfl, rfl⟩ | ⟨c_33, rfl, rfl⟩
            · skip
              refine W.eq (g2 := F0 m 71 ls [.int (nI 2)]) rfl ?_
              exact gc_iret hx hb hr hlk hP hS d_Fl_stateAfter_71 ⟨rfl, Or.inr ⟨2, (by first | (exfalso; omega) | (unfold stA; (repeat (first | rw [if_pos (by omega)] | rw [if_neg (by omega)])) <;> first | rfl | (split <;> first | rfl | (exfalso; omega) | (split <;> first | rfl | (exfalso; omega))))), (by omega), rfl, rfl⟩⟩
            · skip
              refine W.eq (g2 := F0 m 71 ls [.int (nI 4)]) rfl ?_
              exact gc_iret hx hb hr hlk hP hS d_Fl_stateAfter_71 ⟨rfl, Or.inr ⟨4, (by first | (exfalso; omega) | (unfold stA; (repeat (first | rw [if_pos (by omega)] | rw [if_neg (by omega)])) <;> first | rfl | (split <;> first | rfl | (exfalso; omega) | (split <;> first | rfl | (exfalso; omega))))), (by omega), rfl, rfl⟩⟩
            · skip
              refine W.eq (g2 := F0 m 71 ls [.int (nI 3)]) rfl ?_
              exact gc_iret hx hb hr hlk hP hS d_Fl_stateAfter_71 ⟨rfl, Or.inr ⟨3, (by first | (exfalso; omega) | (unfold stA; (repeat (first | rw [if_pos (by omega)] | rw [if_neg (by omega)])) <;> first | rfl | (split <;> first | rfl | (exfalso; omega) | (split <;> first | rfl | (exfalso; omega))))), (by omega), rfl, rfl⟩⟩
            · skip
              refine W.eq (g2 := F0 m 71 ls [.int (-1)]) rfl ?_
              exact gc_iret hx hb hr hlk hP hS d_Fl_stateAfter_71 ⟨rfl, Or.inl ⟨(by first | (exfalso; omega) | (unfold stA; (repeat (first | rw [if_pos (by omega)] | rw [if_neg (by omega)])) <;> first | rfl | (split <;> first | rfl | (exfalso; omega) | (split <;> first | rfl | (exfalso; omega))))), rfl, rfl⟩⟩
        · skip
          refine lv_iload_n hx hb d_Fl_stateAfter_52 rfl (lv_at hl 0 rfl) ?_
          refine lv_iload_n hx hb d_Fl_stateAfter_53 rfl (lv_at hl 3 rfl) ?_
          refine gc_S (n := 2) [.int (nI 1), .int (nI f)] [] hx hb hml hown hts hK hN hX hP hS (c_Fl_afterBegun 1 f (by omega) (by omega)) k_587 k_588 k_8 k_589 (by decide +kernel) ⟨by decide, by decide⟩ rfl hl.1 rfl (Nat.le_of_ble_eq_true rfl) d_Fl_stateAfter_54 ⟨by decide, by decide⟩ (fun r N1 M_34 H locs hw hP hS => ?_)
          obtain ⟨rfl, hw⟩ := hw
          rcases hw with ⟨c_35, rfl, rfl⟩ | ⟨c_36, rfl, rfl⟩ | ⟨c_37, rfl, rfl⟩
          · skip
            refine W.eq (g2 := F0 m 57 ls [.int (nI 1)]) rfl ?_
            exact gc_iret hx hb hr hlk hP hS d_Fl_stateAfter_57 ⟨rfl, Or.inr ⟨1, (by first | (exfalso; omega) | (unfold stA; (repeat (first | rw [if_pos (by omega)] | rw [if_neg (by omega)])) <;> first | rfl | (split <;> first | rfl | (exfalso; omega) | (split <;> first | rfl | (exfalso; omega))))), (by omega), rfl, rfl⟩⟩
          · skip
            refine W.eq (g2 := F0 m 57 ls [.int (nI 2)]) rfl ?_
            exact gc_iret hx hb hr hlk hP hS d_Fl_stateAfter_57 ⟨rfl, Or.inr ⟨2, (by first | (exfalso; omega) | (unfold stA; (repeat (first | rw [if_pos (by omega)] | rw [if_neg (by omega)])) <;> first | rfl | (split <;> first | rfl | (exfalso; omega) | (split <;> first | rfl | (exfalso; omega))))), (by omega), rfl, rfl⟩⟩
          · skip
            refine W.eq (g2 := F0 m 57 ls [.int (-1)]) rfl ?_
            exact gc_iret hx hb hr hlk hP hS d_Fl_stateAfter_57 ⟨rfl, Or.inl ⟨(by first | (exfalso; omega) | (unfold stA; (repeat (first | rw [if_pos (by omega)] | rw [if_neg (by omega)])) <;> first | rfl | (split <;> first | rfl | (exfalso; omega) | (split <;> first | rfl | (exfalso; omega))))), rfl, rfl⟩⟩
      · skip
        refine lv_iconst (v := nI 0) hx hb d_Fl_stateAfter_42 (by decide) ?_
        exact gc_iret hx hb hr hlk hP hS d_Fl_stateAfter_43 ⟨rfl, Or.inr ⟨0, (by first | (exfalso; omega) | (unfold stA; (repeat (first | rw [if_pos (by omega)] | rw [if_neg (by omega)])) <;> first | rfl | (split <;> first | rfl | (exfalso; omega) | (split <;> first | rfl | (exfalso; omega))))), (by omega), rfl, rfl⟩⟩
    · skip
      refine lv_iload_n hx hb d_Fl_stateAfter_21 rfl (lv_at hl 0 rfl) ?_
      refine lv_if_eq (tgt := 32) hx hb d_Fl_stateAfter_22 (by decide) (fun q => absurd q (by decide)) (fun _ => ?_)
      refine lv_aload_n hx hb d_Fl_stateAfter_25 rfl (lv_at hl 1 rfl) ?_
      refine gm_get (C := R_Fl) (T := F_Fl) (n := 8) hx hb htl i_Fl hown hK hP e1 rfl 4 (by decide) (htl _ k_136) (fun _ h => h) rfl d_Fl_stateAfter_26 ?_
      refine lv_goto (tgt := 34) hx hb d_Fl_stateAfter_29 (by decide) ?_
      exact gc_iret hx hb hr hlk hP hS d_Fl_stateAfter_34 ⟨rfl, Or.inr ⟨st, (by first | (exfalso; omega) | (unfold stA; (repeat (first | rw [if_pos (by omega)] | rw [if_neg (by omega)])) <;> first | rfl | (split <;> first | rfl | (exfalso; omega) | (split <;> first | rfl | (exfalso; omega))))), (by omega), rfl, rfl⟩⟩
set_option maxHeartbeats 4000000 in
set_option maxRecDepth 100000 in
theorem c_Fl_follow {x pr ins out pub st la op cl : Nat} {b f tm : Nat} (e1 : M x = some (.inr (2, [.int (nI pr), .int (nI ins), .int (nI out), .int (nI pub), .int (nI st), .int (nI la), .int (nI op), .int (nI cl)]))) (hpr : pr < 65536) (hst : st ≤ 7) (hop : op ≤ 1) (hcl : cl ≤ 1) (hb0 : b ≤ 1) (hf : f < 65536) : gC l D ca A G y_Fl_follow (.code y_Fl_follow b_Fl_follow 5 (some .boolean)) ({ frames := 2, cells := 0, slots := 0, locals := 45 }) N M [.ref x, .int (nI b), .int (nI f), .int (nI tm)] gm_i (fun (r : Int32) (N1 : Nat) (M1 : gm_M) => N = N1 ∧ (((stA pr op cl st b f = none) ∧ M = M1 ∧ nI 0 = r) ∨ (∃ (k : Nat), (stA pr op cl st b f = some k) ∧ (k ≤ 7) ∧ (k = 4 ∧ ¬ st = 4) ∧ gm_up M x (.inr (2, [.int (nI pr), .int (nI ins), .int (nI out), .int (nI pub), .int (nI k), .int (nI tm), .int (nI op), .int (nI b)])) = M1 ∧ nI 1 = r) ∨ (∃ (k : Nat), (stA pr op cl st b f = some k) ∧ (k ≤ 7) ∧ (¬ (k = 4 ∧ ¬ st = 4)) ∧ gm_up M x (.inr (2, [.int (nI pr), .int (nI ins), .int (nI out), .int (nI pub), .int (nI k), .int (nI tm), .int (nI op), .int (nI cl)])) = M1 ∧ nI 1 = r))) := by
  refine gm_body (by decide) (Nat.le_of_ble_eq_true rfl) (fun p e s m below meth c ls hx hb hr hts hown hlk hml hnm hP hK hN hX hS hl => ?_)
  have htl : ∀ w ∈ LW, w.before _ s = true := fun w h => hts w (List.mem_cons_of_mem _ h)
  have hown : s.vm.findClass "PacketGate$Flow" = some m.cls := hown
  have hl : lv_has ls 5 [(0, .ref x), (1, .int (nI b)), (2, .int (nI f)), (3, .int (nI tm))] := hl
  refine lv_aload_n hx hb d_Fl_follow_0 rfl (lv_at hl 0 rfl) ?_
  refine lv_iload_n hx hb d_Fl_follow_1 rfl (lv_at hl 1 rfl) ?_
  refine lv_iload_n hx hb d_Fl_follow_2 rfl (lv_at hl 2 rfl) ?_
  refine gc_V (q := (R_Fl, F_Fl, 8)) (n := 2) [.int (nI b), .int (nI f)] [] hx hb hml hown hts hK hN hX hP hS (c_Fl_stateAfter e1 (by omega) (by omega) (by omega) (by omega) (by omega) (by omega)) rfl e1 k_583 k_585 ks_Fl_stateAfter k_8 k_586 (by decide +kernel) ⟨by decide, by decide⟩ rfl hl.1 rfl (Nat.le_of_ble_eq_true rfl) d_Fl_follow_3 ⟨by decide, by decide⟩ (fun r N1 M_1 H locs hw hP hS => ?_)
  obtain ⟨rfl, hw⟩ := hw
  rcases hw with ⟨c_2, rfl, rfl⟩ | ⟨kv_3, c_4, c_5, rfl, rfl⟩
  · skip
    refine W.eq (g2 := F0 m 6 ls [.int (-1)]) rfl ?_
    refine lv_istore (lv' := [(4, .int (-1)), (0, .ref x), (1, .int (nI b)), (2, .int (nI f)), (3, .int (nI tm))]) hx hb d_Fl_follow_6 hl (by decide) rfl (fun ls hl => ?_)
    refine lv_iload hx hb d_Fl_follow_8 (lv_at hl 0 rfl) ?_
    refine lv_iconst (v := (-1)) hx hb d_Fl_follow_10 (by decide) ?_
    refine lv_icmp_ne (tgt := 16) hx hb d_Fl_follow_11 (by decide) (fun q => absurd q (by decide)) (fun _ => ?_)
    refine lv_iconst (v := nI 0) hx hb d_Fl_follow_14 (by decide) ?_
    exact gc_zret hx hb hr hlk hP hS d_Fl_follow_15 rfl ⟨rfl, Or.inl ⟨by assumption, rfl, rfl⟩⟩
  · skip
    refine W.eq (g2 := F0 m 6 ls [.int (nI kv_3)]) rfl ?_
    refine lv_istore (lv' := [(4, .int (nI kv_3)), (0, .ref x), (1, .int (nI b)), (2, .int (nI f)), (3, .int (nI tm))]) hx hb d_Fl_follow_6 hl (by decide) rfl (fun ls hl => ?_)
    refine lv_iload hx hb d_Fl_follow_8 (lv_at hl 0 rfl) ?_
    refine lv_iconst (v := (-1)) hx hb d_Fl_follow_10 (by decide) ?_
    refine lv_icmp_ne (tgt := 16) hx hb d_Fl_follow_11 (by decide) (fun _ => ?_) (fun q => absurd q (nI_nm1 (by omega)))
    refine lv_iload hx hb d_Fl_follow_16 (lv_at hl 0 rfl) ?_
    refine lv_iconst (v := nI 4) hx hb d_Fl_follow_18 (by decide) ?_
    refine ln_ne (tgt := 35) hx hb d_Fl_follow_19 (by decide) (by omega) (by omega) (fun c_6 => ?_) (fun c_6 => ?_)
    · skip
      refine lv_aload_n hx hb d_Fl_follow_35 rfl (lv_at hl 1 rfl) ?_
      refine lv_iload hx hb d_Fl_follow_36 (lv_at hl 0 rfl) ?_
      refine gm_put (C := R_Fl) (T := F_Fl) (n := 8) (ty := .int) hx hb htl i_Fl t_Fl tk_Fl n_Fl hown hK hP hS e1 rfl 4 (by decide) (htl _ k_136) (fun _ h => h) rfl (tk_Fl 4 (by decide)) rfl rfl (Nat.le_of_ble_eq_true rfl) d_Fl_follow_38 (fun H locs hP hS => ?_)
      have hP : gm_P D cls A N (gm_up M x (.inr (2, [.int (nI pr), .int (nI ins), .int (nI out), .int (nI pub), .int (nI kv_3), .int (nI la), .int (nI op), .int (nI cl)]))) H := hP
      have h_7 := gm_up_self M x (.inr (2, [.int (nI pr), .int (nI ins), .int (nI out), .int (nI pub), .int (nI kv_3), .int (nI la), .int (nI op), .int (nI cl)]))
      refine lv_aload_n hx hb d_Fl_follow_41 rfl (lv_at hl 1 rfl) ?_
      refine lv_iload_n hx hb d_Fl_follow_42 rfl (lv_at hl 4 rfl) ?_
      refine gm_put (C := R_Fl) (T := F_Fl) (n := 8) (ty := .int) hx hb htl i_Fl t_Fl tk_Fl n_Fl hown hK hP hS h_7 rfl 5 (by decide) (htl _ k_138) (fun _ h => h) rfl (tk_Fl 5 (by decide)) rfl rfl (Nat.le_of_ble_eq_true rfl) d_Fl_follow_43 (fun H locs hP hS => ?_)
      have he_8 : gm_up (gm_up M x (.inr (2, [.int (nI pr), .int (nI ins), .int (nI out), .int (nI pub), .int (nI kv_3), .int (nI la), .int (nI op), .int (nI cl)]))) x (.inr (2, [.int (nI pr), .int (nI ins), .int (nI out), .int (nI pub), .int (nI kv_3), .int (nI tm), .int (nI op), .int (nI cl)])) = gm_up M x (.inr (2, [.int (nI pr), .int (nI ins), .int (nI out), .int (nI pub), .int (nI kv_3), .int (nI tm), .int (nI op), .int (nI cl)])) := gm_up_up _ _ _ _
      have hP := Eq.mp (congrArg (fun Z => gm_P D cls A N Z H) he_8) hP
      have h_9 := (congrFun he_8 _).symm.trans (gm_up_self (gm_up M x (.inr (2, [.int (nI pr), .int (nI ins), .int (nI out), .int (nI pub), .int (nI kv_3), .int (nI la), .int (nI op), .int (nI cl)]))) x (.inr (2, [.int (nI pr), .int (nI ins), .int (nI out), .int (nI pub), .int (nI kv_3), .int (nI tm), .int (nI op), .int (nI cl)])))
      refine lv_iconst (v := nI 1) hx hb d_Fl_follow_46 (by decide) ?_
      exact gc_zret hx hb hr hlk hP hS d_Fl_follow_47 rfl ⟨rfl, Or.inr (Or.inr ⟨kv_3, by assumption, by assumption, by omega, rfl, rfl⟩)⟩
    · skip
      refine lv_aload_n hx hb d_Fl_follow_22 rfl (lv_at hl 1 rfl) ?_
      refine gm_get (C := R_Fl) (T := F_Fl) (n := 8) hx hb htl i_Fl hown hK hP e1 rfl 4 (by decide) (htl _ k_136) (fun _ h => h) rfl d_Fl_follow_23 ?_
      refine lv_iconst (v := nI 4) hx hb d_Fl_follow_26 (by decide) ?_
      refine ln_eq (tgt := 35) hx hb d_Fl_follow_27 (by decide) (by omega) (by omega) (fun c_10 => ?_) (fun c_10 => ?_)
      · skip
        refine lv_aload_n hx hb d_Fl_follow_35 rfl (lv_at hl 1 rfl) ?_
        refine lv_iload hx hb d_Fl_follow_36 (lv_at hl 0 rfl) ?_
        refine gm_put (C := R_Fl) (T := F_Fl) (n := 8) (ty := .int) hx hb htl i_Fl t_Fl tk_Fl n_Fl hown hK hP hS e1 rfl 4 (by decide) (htl _ k_136) (fun _ h => h) rfl (tk_Fl 4 (by decide)) rfl rfl (Nat.le_of_ble_eq_true rfl) d_Fl_follow_38 (fun H locs hP hS => ?_)
        have hP : gm_P D cls A N (gm_up M x (.inr (2, [.int (nI pr), .int (nI ins), .int (nI out), .int (nI pub), .int (nI kv_3), .int (nI la), .int (nI op), .int (nI cl)]))) H := hP
        have h_11 := gm_up_self M x (.inr (2, [.int (nI pr), .int (nI ins), .int (nI out), .int (nI pub), .int (nI kv_3), .int (nI la), .int (nI op), .int (nI cl)]))
        refine lv_aload_n hx hb d_Fl_follow_41 rfl (lv_at hl 1 rfl) ?_
        refine lv_iload_n hx hb d_Fl_follow_42 rfl (lv_at hl 4 rfl) ?_
        refine gm_put (C := R_Fl) (T := F_Fl) (n := 8) (ty := .int) hx hb htl i_Fl t_Fl tk_Fl n_Fl hown hK hP hS h_11 rfl 5 (by decide) (htl _ k_138) (fun _ h => h) rfl (tk_Fl 5 (by decide)) rfl rfl (Nat.le_of_ble_eq_true rfl) d_Fl_follow_43 (fun H locs hP hS => ?_)
        have he_12 : gm_up (gm_up M x (.inr (2, [.int (nI pr), .int (nI ins), .int (nI out), .int (nI pub), .int (nI kv_3), .int (nI la), .int (nI op), .int (nI cl)]))) x (.inr (2, [.int (nI pr), .int (nI ins), .int (nI out), .int (nI pub), .int (nI kv_3), .int (nI tm), .int (nI op), .int (nI cl)])) = gm_up M x (.inr (2, [.int (nI pr), .int (nI ins), .int (nI out), .int (nI pub), .int (nI kv_3), .int (nI tm), .int (nI op), .int (nI cl)])) := gm_up_up _ _ _ _
        have hP := Eq.mp (congrArg (fun Z => gm_P D cls A N Z H) he_12) hP
        have h_13 := (congrFun he_12 _).symm.trans (gm_up_self (gm_up M x (.inr (2, [.int (nI pr), .int (nI ins), .int (nI out), .int (nI pub), .int (nI kv_3), .int (nI la), .int (nI op), .int (nI cl)]))) x (.inr (2, [.int (nI pr), .int (nI ins), .int (nI out), .int (nI pub), .int (nI kv_3), .int (nI tm), .int (nI op), .int (nI cl)])))
        refine lv_iconst (v := nI 1) hx hb d_Fl_follow_46 (by decide) ?_
        exact gc_zret hx hb hr hlk hP hS d_Fl_follow_47 rfl ⟨rfl, Or.inr (Or.inr ⟨kv_3, by assumption, by assumption, by omega, rfl, rfl⟩)⟩
      · skip
        refine lv_aload_n hx hb d_Fl_follow_30 rfl (lv_at hl 1 rfl) ?_
        refine lv_iload_n hx hb d_Fl_follow_31 rfl (lv_at hl 2 rfl) ?_
        refine gm_put (C := R_Fl) (T := F_Fl) (n := 8) (ty := .boolean) hx hb htl i_Fl t_Fl tk_Fl n_Fl hown hK hP hS e1 rfl 7 (by decide) (htl _ k_140) (fun _ h => h) rfl (tk_Fl 7 (by decide)) (nbz b hb0).1 (nbz b hb0).2 (Nat.le_of_ble_eq_true rfl) d_Fl_follow_32 (fun H locs hP hS => ?_)
        have hP : gm_P D cls A N (gm_up M x (.inr (2, [.int (nI pr), .int (nI ins), .int (nI out), .int (nI pub), .int (nI st), .int (nI la), .int (nI op), .int (nI b)]))) H := hP
        have h_14 := gm_up_self M x (.inr (2, [.int (nI pr), .int (nI ins), .int (nI out), .int (nI pub), .int (nI st), .int (nI la), .int (nI op), .int (nI b)]))
        refine lv_aload_n hx hb d_Fl_follow_35 rfl (lv_at hl 1 rfl) ?_
        refine lv_iload hx hb d_Fl_follow_36 (lv_at hl 0 rfl) ?_
        refine gm_put (C := R_Fl) (T := F_Fl) (n := 8) (ty := .int) hx hb htl i_Fl t_Fl tk_Fl n_Fl hown hK hP hS h_14 rfl 4 (by decide) (htl _ k_136) (fun _ h => h) rfl (tk_Fl 4 (by decide)) rfl rfl (Nat.le_of_ble_eq_true rfl) d_Fl_follow_38 (fun H locs hP hS => ?_)
        have he_15 : gm_up (gm_up M x (.inr (2, [.int (nI pr), .int (nI ins), .int (nI out), .int (nI pub), .int (nI st), .int (nI la), .int (nI op), .int (nI b)]))) x (.inr (2, [.int (nI pr), .int (nI ins), .int (nI out), .int (nI pub), .int (nI kv_3), .int (nI la), .int (nI op), .int (nI b)])) = gm_up M x (.inr (2, [.int (nI pr), .int (nI ins), .int (nI out), .int (nI pub), .int (nI kv_3), .int (nI la), .int (nI op), .int (nI b)])) := gm_up_up _ _ _ _
        have hP := Eq.mp (congrArg (fun Z => gm_P D cls A N Z H) he_15) hP
        have h_16 := (congrFun he_15 _).symm.trans (gm_up_self (gm_up M x (.inr (2, [.int (nI pr), .int (nI ins), .int (nI out), .int (nI pub), .int (nI st), .int (nI la), .int (nI op), .int (nI b)]))) x (.inr (2, [.int (nI pr), .int (nI ins), .int (nI out), .int (nI pub), .int (nI kv_3), .int (nI la), .int (nI op), .int (nI b)])))
        refine lv_aload_n hx hb d_Fl_follow_41 rfl (lv_at hl 1 rfl) ?_
        refine lv_iload_n hx hb d_Fl_follow_42 rfl (lv_at hl 4 rfl) ?_
        refine gm_put (C := R_Fl) (T := F_Fl) (n := 8) (ty := .int) hx hb htl i_Fl t_Fl tk_Fl n_Fl hown hK hP hS h_16 rfl 5 (by decide) (htl _ k_138) (fun _ h => h) rfl (tk_Fl 5 (by decide)) rfl rfl (Nat.le_of_ble_eq_true rfl) d_Fl_follow_43 (fun H locs hP hS => ?_)
        have he_17 : gm_up (gm_up M x (.inr (2, [.int (nI pr), .int (nI ins), .int (nI out), .int (nI pub), .int (nI kv_3), .int (nI la), .int (nI op), .int (nI b)]))) x (.inr (2, [.int (nI pr), .int (nI ins), .int (nI out), .int (nI pub), .int (nI kv_3), .int (nI tm), .int (nI op), .int (nI b)])) = gm_up M x (.inr (2, [.int (nI pr), .int (nI ins), .int (nI out), .int (nI pub), .int (nI kv_3), .int (nI tm), .int (nI op), .int (nI b)])) := gm_up_up _ _ _ _
        have hP := Eq.mp (congrArg (fun Z => gm_P D cls A N Z H) he_17) hP
        have h_18 := (congrFun he_17 _).symm.trans (gm_up_self (gm_up M x (.inr (2, [.int (nI pr), .int (nI ins), .int (nI out), .int (nI pub), .int (nI kv_3), .int (nI la), .int (nI op), .int (nI b)]))) x (.inr (2, [.int (nI pr), .int (nI ins), .int (nI out), .int (nI pub), .int (nI kv_3), .int (nI tm), .int (nI op), .int (nI b)])))
        refine lv_iconst (v := nI 1) hx hb d_Fl_follow_46 (by decide) ?_
        exact gc_zret hx hb hr hlk hP hS d_Fl_follow_47 rfl ⟨rfl, Or.inr (Or.inl ⟨kv_3, by assumption, by assumption, by omega, rfl, rfl⟩)⟩
set_option maxHeartbeats 4000000 in
set_option maxRecDepth 100000 in
theorem c_Fl_isTimedOut {x pr ins out pub st la op cl : Nat} {tm : Nat} (e1 : M x = some (.inr (2, [.int (nI pr), .int (nI ins), .int (nI out), .int (nI pub), .int (nI st), .int (nI la), .int (nI op), .int (nI cl)]))) (hst : st ≤ 7) (htm : la ≤ tm) (htb : tm < 2 ^ 30) : gC l D ca A G y_Fl_isTimedOut (.code y_Fl_isTimedOut b_Fl_isTimedOut 2 (some .boolean)) ({ frames := 0, cells := 0, slots := 0, locals := 0 }) N M [.ref x, .int (nI tm)] gm_i (fun (r : Int32) (N1 : Nat) (M1 : gm_M) => N = N1 ∧ (((limN st ≤ tm - la) ∧ M = M1 ∧ nI 1 = r) ∨ ((tm - la < limN st) ∧ M = M1 ∧ nI 0 = r))) := by
  refine gm_body (by decide) (Nat.le_of_ble_eq_true rfl) (fun p e s m below meth c ls hx hb hr hts hown hlk hml hnm hP hK hN hX hS hl => ?_)
  have htl : ∀ w ∈ LW, w.before _ s = true := fun w h => hts w (List.mem_cons_of_mem _ h)
  have hown : s.vm.findClass "PacketGate$Flow" = some m.cls := hown
  have hl : lv_has ls 2 [(0, .ref x), (1, .int (nI tm))] := hl
  refine lv_iload_n hx hb d_Fl_isTimedOut_0 rfl (lv_at hl 1 rfl) ?_
  refine lv_aload_n hx hb d_Fl_isTimedOut_1 rfl (lv_at hl 0 rfl) ?_
  refine gm_get (C := R_Fl) (T := F_Fl) (n := 8) hx hb htl i_Fl hown hK hP e1 rfl 5 (by decide) (htl _ k_138) (fun _ h => h) rfl d_Fl_isTimedOut_2 ?_
  refine lv_isub hx hb d_Fl_isTimedOut_5 ?_
  rw [show (nI tm) - (nI la) = nI (tm - la) from pk_sub (by omega)]
  refine va_gets hx hb hX.2.2.2.2.1 hS hown (htl _ k_709) (fun _ h => h) d_Fl_isTimedOut_6 ?_
  refine lv_aload_n hx hb d_Fl_isTimedOut_9 rfl (lv_at hl 0 rfl) ?_
  refine gm_get (C := R_Fl) (T := F_Fl) (n := 8) hx hb htl i_Fl hown hK hP e1 rfl 4 (by decide) (htl _ k_136) (fun _ h => h) rfl d_Fl_isTimedOut_10 ?_
  refine va_ti (v := .int (nI (limN st))) hx hb hX.2.2.2.2.2.1 hS (vp_in_nI (by omega) (by decide)) (by rw [nI_clamp (by omega)]; exact congrArg Value.int (limN_ok _ (by omega))) d_Fl_isTimedOut_13 ?_
  have b_1 := limN_lt st
  refine ln_lt (tgt := 21) hx hb d_Fl_isTimedOut_14 (by decide) (by omega) (by omega) (fun c_2 => ?_) (fun c_2 => ?_)
  · skip
    refine lv_iconst (v := nI 0) hx hb d_Fl_isTimedOut_21 (by decide) ?_
    exact gc_zret hx hb hr hlk hP hS d_Fl_isTimedOut_22 rfl (by first | exact ⟨rfl, Or.inl ⟨(by first | assumption | omega), rfl, rfl⟩⟩ | exact ⟨rfl, Or.inr ⟨(by first | assumption | omega), rfl, rfl⟩⟩)
  · skip
    refine lv_iconst (v := nI 1) hx hb d_Fl_isTimedOut_17 (by decide) ?_
    refine lv_goto (tgt := 22) hx hb d_Fl_isTimedOut_18 (by decide) ?_
    exact gc_zret hx hb hr hlk hP hS d_Fl_isTimedOut_22 rfl (by first | exact ⟨rfl, Or.inl ⟨(by first | assumption | omega), rfl, rfl⟩⟩ | exact ⟨rfl, Or.inr ⟨(by first | assumption | omega), rfl, rfl⟩⟩)
set_option maxHeartbeats 4000000 in
set_option maxRecDepth 100000 in
theorem c_Fl_fieldOrRefused (y : Int32) {x pr ins out pub st la op cl : Nat} (e1 : M x = some (.inr (2, [.int (nI pr), .int (nI ins), .int (nI out), .int (nI pub), .int (nI st), .int (nI la), .int (nI op), .int (nI cl)]))) (hin : ins < 65536) (hou : out < 65536) : gC l D ca A G y_Fl_fieldOrRefused (.code y_Fl_fieldOrRefused b_Fl_fieldOrRefused 2 (some .int)) ({ frames := 1, cells := 0, slots := 0, locals := 20 }) N M [.ref x, .int y] gm_i (fun (r : Int32) (N1 : Nat) (M1 : gm_M) => N = N1 ∧ (((y = nI 0) ∧ M = M1 ∧ nI st = r) ∨ ((y = nI 1) ∧ M = M1 ∧ nI pr = r) ∨ ((y = nI 2) ∧ M = M1 ∧ nI (ins / 256) = r) ∨ ((y = nI 3) ∧ M = M1 ∧ nI (ins % 256) = r) ∨ ((y = nI 4) ∧ M = M1 ∧ nI (out / 256) = r) ∨ ((y = nI 5) ∧ M = M1 ∧ nI (out % 256) = r) ∨ ((y = nI 6) ∧ M = M1 ∧ nI pub = r) ∨ ((y = nI 7) ∧ M = M1 ∧ nI la = r) ∨ ((y < 0 ∨ nI 7 < y) ∧ M = M1 ∧ (-1) = r))) := by
  refine gm_body (by decide) (Nat.le_of_ble_eq_true rfl) (fun p e s m below meth c ls hx hb hr hts hown hlk hml hnm hP hK hN hX hS hl => ?_)
  have htl : ∀ w ∈ LW, w.before _ s = true := fun w h => hts w (List.mem_cons_of_mem _ h)
  have hown : s.vm.findClass "PacketGate$Flow" = some m.cls := hown
  have hl : lv_has ls 2 [(0, .ref x), (1, .int y)] := hl
  refine lv_iload_n hx hb d_Fl_fieldOrRefused_0 rfl (lv_at hl 1 rfl) ?_
  rcases sw_split y 8 (by decide) with ⟨hout, hout2⟩ | ⟨kq, hkq, rfl⟩
  · skip
    refine lv_tableOut (tgt := 100) hx hb d_Fl_fieldOrRefused_1 hout (by decide) ?_
    refine lv_iconst (v := (-1)) hx hb d_Fl_fieldOrRefused_100 (by decide) ?_
    exact gc_iret hx hb hr hlk hP hS d_Fl_fieldOrRefused_101 ⟨rfl, Or.inr (Or.inr (Or.inr (Or.inr (Or.inr (Or.inr (Or.inr (Or.inr ⟨hout2, rfl, rfl⟩)))))))⟩
  · skip
    rcases (show kq = 0 ∨ kq = 1 ∨ kq = 2 ∨ kq = 3 ∨ kq = 4 ∨ kq = 5 ∨ kq = 6 ∨ kq = 7 by omega) with rfl | rfl | rfl | rfl | rfl | rfl | rfl | rfl
    · skip
      refine lv_tableIn (off := 47) (tgt := 48) hx hb d_Fl_fieldOrRefused_1 (by decide) (by decide) (by decide) (by decide) ?_
      refine lv_aload_n hx hb d_Fl_fieldOrRefused_48 rfl (lv_at hl 0 rfl) ?_
      refine gm_get (C := R_Fl) (T := F_Fl) (n := 8) hx hb htl i_Fl hown hK hP e1 rfl 4 (by decide) (htl _ k_136) (fun _ h => h) rfl d_Fl_fieldOrRefused_49 ?_
      exact gc_iret hx hb hr hlk hP hS d_Fl_fieldOrRefused_52 ⟨rfl, Or.inl ⟨rfl, rfl, rfl⟩⟩
    · skip
      refine lv_tableIn (off := 52) (tgt := 53) hx hb d_Fl_fieldOrRefused_1 (by decide) (by decide) (by decide) (by decide) ?_
      refine lv_aload_n hx hb d_Fl_fieldOrRefused_53 rfl (lv_at hl 0 rfl) ?_
      refine gm_get (C := R_Fl) (T := F_Fl) (n := 8) hx hb htl i_Fl hown hK hP e1 rfl 0 (by decide) (htl _ k_127) (fun _ h => h) rfl d_Fl_fieldOrRefused_54 ?_
      exact gc_iret hx hb hr hlk hP hS d_Fl_fieldOrRefused_57 ⟨rfl, Or.inr (Or.inl ⟨rfl, rfl, rfl⟩)⟩
    · skip
      refine lv_tableIn (off := 57) (tgt := 58) hx hb d_Fl_fieldOrRefused_1 (by decide) (by decide) (by decide) (by decide) ?_
      refine lv_aload_n hx hb d_Fl_fieldOrRefused_58 rfl (lv_at hl 0 rfl) ?_
      refine gm_get (C := R_Fl) (T := F_Fl) (n := 8) hx hb htl i_Fl hown hK hP e1 rfl 1 (by decide) (htl _ k_129) (fun _ h => h) rfl d_Fl_fieldOrRefused_59 ?_
      refine gc_SN (n := 1) [.int (nI ins)] [] hx hb hml hown hts hK hN hX hP hS (c_Pg_addressOf ins (by omega)) hX.1.2.2.2.1 k_562 k_1 k_563 (by decide +kernel) ⟨by decide, by decide⟩ rfl hl.1 rfl (Nat.le_of_ble_eq_true rfl) d_Fl_fieldOrRefused_62 ⟨by decide, by decide⟩ (fun r N1 M_1 H locs hw hP hS => ?_)
      obtain ⟨rfl, hw⟩ := hw
      obtain ⟨rfl, rfl⟩ := hw
      refine W.eq (g2 := F0 m 65 ls [.int (nI (ins / 256))]) rfl ?_
      exact gc_iret hx hb hr hlk hP hS d_Fl_fieldOrRefused_65 ⟨rfl, Or.inr (Or.inr (Or.inl ⟨rfl, rfl, rfl⟩))⟩
    · skip
      refine lv_tableIn (off := 65) (tgt := 66) hx hb d_Fl_fieldOrRefused_1 (by decide) (by decide) (by decide) (by decide) ?_
      refine lv_aload_n hx hb d_Fl_fieldOrRefused_66 rfl (lv_at hl 0 rfl) ?_
      refine gm_get (C := R_Fl) (T := F_Fl) (n := 8) hx hb htl i_Fl hown hK hP e1 rfl 1 (by decide) (htl _ k_129) (fun _ h => h) rfl d_Fl_fieldOrRefused_67 ?_
      refine gc_SN (n := 1) [.int (nI ins)] [] hx hb hml hown hts hK hN hX hP hS (c_Pg_portOf ins (by omega)) hX.1.2.2.2.2 k_602 k_1 k_603 (by decide +kernel) ⟨by decide, by decide⟩ rfl hl.1 rfl (Nat.le_of_ble_eq_true rfl) d_Fl_fieldOrRefused_70 ⟨by decide, by decide⟩ (fun r N1 M_2 H locs hw hP hS => ?_)
      obtain ⟨rfl, hw⟩ := hw
      obtain ⟨rfl, rfl⟩ := hw
      refine W.eq (g2 := F0 m 73 ls [.int (nI (ins % 256))]) rfl ?_
      exact gc_iret hx hb hr hlk hP hS d_Fl_fieldOrRefused_73 ⟨rfl, Or.inr (Or.inr (Or.inr (Or.inl ⟨rfl, rfl, rfl⟩)))⟩
    · skip
      refine lv_tableIn (off := 73) (tgt := 74) hx hb d_Fl_fieldOrRefused_1 (by decide) (by decide) (by decide) (by decide) ?_
      refine lv_aload_n hx hb d_Fl_fieldOrRefused_74 rfl (lv_at hl 0 rfl) ?_
      refine gm_get (C := R_Fl) (T := F_Fl) (n := 8) hx hb htl i_Fl hown hK hP e1 rfl 2 (by decide) (htl _ k_131) (fun _ h => h) rfl d_Fl_fieldOrRefused_75 ?_
      refine gc_SN (n := 1) [.int (nI out)] [] hx hb hml hown hts hK hN hX hP hS (c_Pg_addressOf out (by omega)) hX.1.2.2.2.1 k_562 k_1 k_563 (by decide +kernel) ⟨by decide, by decide⟩ rfl hl.1 rfl (Nat.le_of_ble_eq_true rfl) d_Fl_fieldOrRefused_78 ⟨by decide, by decide⟩ (fun r N1 M_3 H locs hw hP hS => ?_)
      obtain ⟨rfl, hw⟩ := hw
      obtain ⟨rfl, rfl⟩ := hw
      refine W.eq (g2 := F0 m 81 ls [.int (nI (out / 256))]) rfl ?_
      exact gc_iret hx hb hr hlk hP hS d_Fl_fieldOrRefused_81 ⟨rfl, Or.inr (Or.inr (Or.inr (Or.inr (Or.inl ⟨rfl, rfl, rfl⟩))))⟩
    · skip
      refine lv_tableIn (off := 81) (tgt := 82) hx hb d_Fl_fieldOrRefused_1 (by decide) (by decide) (by decide) (by decide) ?_
      refine lv_aload_n hx hb d_Fl_fieldOrRefused_82 rfl (lv_at hl 0 rfl) ?_
      refine gm_get (C := R_Fl) (T := F_Fl) (n := 8) hx hb htl i_Fl hown hK hP e1 rfl 2 (by decide) (htl _ k_131) (fun _ h => h) rfl d_Fl_fieldOrRefused_83 ?_
      refine gc_SN (n := 1) [.int (nI out)] [] hx hb hml hown hts hK hN hX hP hS (c_Pg_portOf out (by omega)) hX.1.2.2.2.2 k_602 k_1 k_603 (by decide +kernel) ⟨by decide, by decide⟩ rfl hl.1 rfl (Nat.le_of_ble_eq_true rfl) d_Fl_fieldOrRefused_86 ⟨by decide, by decide⟩ (fun r N1 M_4 H locs hw hP hS => ?_)
      obtain ⟨rfl, hw⟩ := hw
      obtain ⟨rfl, rfl⟩ := hw
      refine W.eq (g2 := F0 m 89 ls [.int (nI (out % 256))]) rfl ?_
      exact gc_iret hx hb hr hlk hP hS d_Fl_fieldOrRefused_89 ⟨rfl, Or.inr (Or.inr (Or.inr (Or.inr (Or.inr (Or.inl ⟨rfl, rfl, rfl⟩)))))⟩
    · skip
      refine lv_tableIn (off := 89) (tgt := 90) hx hb d_Fl_fieldOrRefused_1 (by decide) (by decide) (by decide) (by decide) ?_
      refine lv_aload_n hx hb d_Fl_fieldOrRefused_90 rfl (lv_at hl 0 rfl) ?_
      refine gm_get (C := R_Fl) (T := F_Fl) (n := 8) hx hb htl i_Fl hown hK hP e1 rfl 3 (by decide) (htl _ k_133) (fun _ h => h) rfl d_Fl_fieldOrRefused_91 ?_
      exact gc_iret hx hb hr hlk hP hS d_Fl_fieldOrRefused_94 ⟨rfl, Or.inr (Or.inr (Or.inr (Or.inr (Or.inr (Or.inr (Or.inl ⟨rfl, rfl, rfl⟩))))))⟩
    · skip
      refine lv_tableIn (off := 94) (tgt := 95) hx hb d_Fl_fieldOrRefused_1 (by decide) (by decide) (by decide) (by decide) ?_
      refine lv_aload_n hx hb d_Fl_fieldOrRefused_95 rfl (lv_at hl 0 rfl) ?_
      refine gm_get (C := R_Fl) (T := F_Fl) (n := 8) hx hb htl i_Fl hown hK hP e1 rfl 5 (by decide) (htl _ k_138) (fun _ h => h) rfl d_Fl_fieldOrRefused_96 ?_
      exact gc_iret hx hb hr hlk hP hS d_Fl_fieldOrRefused_99 ⟨rfl, Or.inr (Or.inr (Or.inr (Or.inr (Or.inr (Or.inr (Or.inr (Or.inl ⟨rfl, rfl, rfl⟩)))))))⟩
end C13
