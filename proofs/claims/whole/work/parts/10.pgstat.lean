section C10
variable {l : Launch} {D : va_G} {ca : Nat → ClassId} {A : Nat → Prop} {G : gG} {N : Nat} {M : gm_M}

set_option maxHeartbeats 4000000 in
set_option maxRecDepth 100000 in
theorem c_Pg_isWithin (x g : Int32) : gC l D ca A G y_Pg_isWithin (.code y_Pg_isWithin b_Pg_isWithin 2 (some .boolean)) ({ frames := 0, cells := 0, slots := 0, locals := 0 }) N M [.int x, .int g] gm_i (fun (r : Int32) (N1 : Nat) (M1 : gm_M) => N = N1 ∧ (((¬ x < 0 ∧ ¬ g < x) ∧ M = M1 ∧ nI 1 = r) ∨ ((¬ (¬ x < 0 ∧ ¬ g < x)) ∧ M = M1 ∧ nI 0 = r))) := by
  refine gm_body (by decide) (Nat.le_of_ble_eq_true rfl) (fun p e s m below meth c ls hx hb hr hts hown hlk hml hnm hP hK hN hX hS hl => ?_)
  have htl : ∀ w ∈ LW, w.before _ s = true := fun w h => hts w (List.mem_cons_of_mem _ h)
  have hown : s.vm.findClass "PacketGate" = some m.cls := hown
  have hl : lv_has ls 2 [(0, .int x), (1, .int g)] := hl
  refine lv_iload_n hx hb d_Pg_isWithin_0 rfl (lv_at hl 0 rfl) ?_
  refine lv_if_lt (tgt := 13) hx hb d_Pg_isWithin_1 (by decide) (fun c_1 => ?_) (fun c_1 => ?_)
  · skip
    refine lv_iconst (v := nI 0) hx hb d_Pg_isWithin_13 (by decide) ?_
    exact gc_zret hx hb hr hlk hP hS d_Pg_isWithin_14 rfl (by first | exact ⟨rfl, Or.inl ⟨(by first | exact ⟨c_1, c_2⟩), rfl, rfl⟩⟩ | exact ⟨rfl, Or.inr ⟨(by first | exact fun q => q.1 c_1 | exact fun q => q.2 c_2), rfl, rfl⟩⟩)
  · skip
    refine lv_iload_n hx hb d_Pg_isWithin_4 rfl (lv_at hl 0 rfl) ?_
    refine lv_iload_n hx hb d_Pg_isWithin_5 rfl (lv_at hl 1 rfl) ?_
    refine lv_icmp_gt (tgt := 13) hx hb d_Pg_isWithin_6 (by decide) (fun c_2 => ?_) (fun c_2 => ?_)
    · skip
      refine lv_iconst (v := nI 0) hx hb d_Pg_isWithin_13 (by decide) ?_
      exact gc_zret hx hb hr hlk hP hS d_Pg_isWithin_14 rfl (by first | exact ⟨rfl, Or.inl ⟨(by first | exact ⟨c_1, c_2⟩), rfl, rfl⟩⟩ | exact ⟨rfl, Or.inr ⟨(by first | exact fun q => q.1 c_1 | exact fun q => q.2 c_2), rfl, rfl⟩⟩)
    · skip
      refine lv_iconst (v := nI 1) hx hb d_Pg_isWithin_9 (by decide) ?_
      refine lv_goto (tgt := 14) hx hb d_Pg_isWithin_10 (by decide) ?_
      exact gc_zret hx hb hr hlk hP hS d_Pg_isWithin_14 rfl (by first | exact ⟨rfl, Or.inl ⟨(by first | exact ⟨c_1, c_2⟩), rfl, rfl⟩⟩ | exact ⟨rfl, Or.inr ⟨(by first | exact fun q => q.1 c_1 | exact fun q => q.2 c_2), rfl, rfl⟩⟩)
set_option maxHeartbeats 4000000 in
set_option maxRecDepth 100000 in
theorem c_Pg_isProtocol (x : Int32) : gC l D ca A G y_Pg_isProtocol (.code y_Pg_isProtocol b_Pg_isProtocol 1 (some .boolean)) ({ frames := 1, cells := 0, slots := 0, locals := 21 }) N M [.int x] gm_i (fun (r : Int32) (N1 : Nat) (M1 : gm_M) => N = N1 ∧ (((¬ x < 0 ∧ ¬ nI 2 < x) ∧ M = M1 ∧ nI 1 = r) ∨ ((¬ (¬ x < 0 ∧ ¬ nI 2 < x)) ∧ M = M1 ∧ nI 0 = r))) := by
  refine gm_body (by decide) (Nat.le_of_ble_eq_true rfl) (fun p e s m below meth c ls hx hb hr hts hown hlk hml hnm hP hK hN hX hS hl => ?_)
  have htl : ∀ w ∈ LW, w.before _ s = true := fun w h => hts w (List.mem_cons_of_mem _ h)
  have hown : s.vm.findClass "PacketGate" = some m.cls := hown
  have hl : lv_has ls 1 [(0, .int x)] := hl
  refine lv_iload_n hx hb d_Pg_isProtocol_0 rfl (lv_at hl 0 rfl) ?_
  refine lv_iconst (v := nI 2) hx hb d_Pg_isProtocol_1 (by decide) ?_
  refine gc_S (n := 2) [.int x, .int (nI 2)] [] hx hb hml hown hts hK hN hX hP hS (c_Pg_isWithin x (nI 2)) k_485 k_251 k_1 k_252 (by decide +kernel) ⟨by decide, by decide⟩ rfl hl.1 rfl (Nat.le_of_ble_eq_true rfl) d_Pg_isProtocol_2 ⟨by decide, by decide⟩ (fun r N1 M_1 H locs hw hP hS => ?_)
  obtain ⟨rfl, hw⟩ := hw
  rcases hw with ⟨c_2, rfl, rfl⟩ | ⟨c_3, rfl, rfl⟩
  · skip
    refine W.eq (g2 := F0 m 5 ls [.int (nI 1)]) rfl ?_
    exact gc_zret hx hb hr hlk hP hS d_Pg_isProtocol_5 rfl (by first | exact ⟨rfl, Or.inl ⟨(by first | assumption | omega), rfl, rfl⟩⟩ | exact ⟨rfl, Or.inr ⟨(by first | assumption | omega), rfl, rfl⟩⟩)
  · skip
    refine W.eq (g2 := F0 m 5 ls [.int (nI 0)]) rfl ?_
    exact gc_zret hx hb hr hlk hP hS d_Pg_isProtocol_5 rfl (by first | exact ⟨rfl, Or.inl ⟨(by first | assumption | omega), rfl, rfl⟩⟩ | exact ⟨rfl, Or.inr ⟨(by first | assumption | omega), rfl, rfl⟩⟩)
set_option maxHeartbeats 4000000 in
set_option maxRecDepth 100000 in
theorem c_Pg_endpoint (a b : Nat) : gC l D ca A G y_Pg_endpoint (.code y_Pg_endpoint b_Pg_endpoint 2 (some .int)) ({ frames := 0, cells := 0, slots := 0, locals := 0 }) N M [.int (nI a), .int (nI b)] gm_i (fun (r : Int32) (N1 : Nat) (M1 : gm_M) => N = N1 ∧ M = M1 ∧ nI (a * 256 + b) = r) := by
  refine gm_body (by decide) (Nat.le_of_ble_eq_true rfl) (fun p e s m below meth c ls hx hb hr hts hown hlk hml hnm hP hK hN hX hS hl => ?_)
  have htl : ∀ w ∈ LW, w.before _ s = true := fun w h => hts w (List.mem_cons_of_mem _ h)
  have hown : s.vm.findClass "PacketGate" = some m.cls := hown
  have hl : lv_has ls 2 [(0, .int (nI a)), (1, .int (nI b))] := hl
  refine lv_iload_n hx hb d_Pg_endpoint_0 rfl (lv_at hl 0 rfl) ?_
  refine lv_sipush (v := nI 256) hx hb d_Pg_endpoint_1 (by decide) ?_
  refine lv_imul hx hb d_Pg_endpoint_4 ?_
  rw [show (nI a) * (nI 256) = nI (a * 256) from pk_mul _ _]
  refine lv_iload_n hx hb d_Pg_endpoint_5 rfl (lv_at hl 1 rfl) ?_
  refine lv_iadd hx hb d_Pg_endpoint_6 ?_
  rw [show (nI (a * 256)) + (nI b) = nI ((a * 256) + b) from nI_add _ _]
  exact gc_iret hx hb hr hlk hP hS d_Pg_endpoint_7 ⟨rfl, rfl, rfl⟩
set_option maxHeartbeats 4000000 in
set_option maxRecDepth 100000 in
theorem c_Pg_addressOf (a : Nat) (ha : a < 65536) : gC l D ca A G y_Pg_addressOf (.code y_Pg_addressOf b_Pg_addressOf 1 (some .int)) ({ frames := 0, cells := 0, slots := 0, locals := 0 }) N M [.int (nI a)] gm_i (fun (r : Int32) (N1 : Nat) (M1 : gm_M) => N = N1 ∧ M = M1 ∧ nI (a / 256) = r) := by
  refine gm_body (by decide) (Nat.le_of_ble_eq_true rfl) (fun p e s m below meth c ls hx hb hr hts hown hlk hml hnm hP hK hN hX hS hl => ?_)
  have htl : ∀ w ∈ LW, w.before _ s = true := fun w h => hts w (List.mem_cons_of_mem _ h)
  have hown : s.vm.findClass "PacketGate" = some m.cls := hown
  have hl : lv_has ls 1 [(0, .int (nI a))] := hl
  refine lv_iload_n hx hb d_Pg_addressOf_0 rfl (lv_at hl 0 rfl) ?_
  refine lv_sipush (v := nI 256) hx hb d_Pg_addressOf_1 (by decide) ?_
  refine lv_idiv hx hb d_Pg_addressOf_4 (by decide) ?_
  rw [show (nI a) / (nI 256) = nI (a / 256) from pk_div (by omega) (by decide) (by decide)]
  exact gc_iret hx hb hr hlk hP hS d_Pg_addressOf_5 ⟨rfl, rfl, rfl⟩
set_option maxHeartbeats 4000000 in
set_option maxRecDepth 100000 in
theorem c_Pg_portOf (a : Nat) (ha : a < 65536) : gC l D ca A G y_Pg_portOf (.code y_Pg_portOf b_Pg_portOf 1 (some .int)) ({ frames := 0, cells := 0, slots := 0, locals := 0 }) N M [.int (nI a)] gm_i (fun (r : Int32) (N1 : Nat) (M1 : gm_M) => N = N1 ∧ M = M1 ∧ nI (a % 256) = r) := by
  refine gm_body (by decide) (Nat.le_of_ble_eq_true rfl) (fun p e s m below meth c ls hx hb hr hts hown hlk hml hnm hP hK hN hX hS hl => ?_)
  have htl : ∀ w ∈ LW, w.before _ s = true := fun w h => hts w (List.mem_cons_of_mem _ h)
  have hown : s.vm.findClass "PacketGate" = some m.cls := hown
  have hl : lv_has ls 1 [(0, .int (nI a))] := hl
  refine lv_iload_n hx hb d_Pg_portOf_0 rfl (lv_at hl 0 rfl) ?_
  refine lv_sipush (v := nI 256) hx hb d_Pg_portOf_1 (by decide) ?_
  refine lv_irem hx hb d_Pg_portOf_4 (by decide) ?_
  rw [show (nI a) - (nI a) / (nI 256) * (nI 256) = nI (a % 256) from pk_rem (by omega) (by decide) (by decide)]
  exact gc_iret hx hb hr hlk hP hS d_Pg_portOf_5 ⟨rfl, rfl, rfl⟩
set_option maxHeartbeats 4000000 in
set_option maxRecDepth 100000 in
theorem c_Pg_isInside (a : Nat) (ha : a < 65536) : gC l D ca A G y_Pg_isInside (.code y_Pg_isInside b_Pg_isInside 1 (some .boolean)) ({ frames := 1, cells := 0, slots := 0, locals := 20 }) N M [.int (nI a)] gm_i (fun (r : Int32) (N1 : Nat) (M1 : gm_M) => N = N1 ∧ (((a / 256 ≤ 127) ∧ M = M1 ∧ nI 1 = r) ∨ ((127 < a / 256) ∧ M = M1 ∧ nI 0 = r))) := by
  refine gm_body (by decide) (Nat.le_of_ble_eq_true rfl) (fun p e s m below meth c ls hx hb hr hts hown hlk hml hnm hP hK hN hX hS hl => ?_)
  have htl : ∀ w ∈ LW, w.before _ s = true := fun w h => hts w (List.mem_cons_of_mem _ h)
  have hown : s.vm.findClass "PacketGate" = some m.cls := hown
  have hl : lv_has ls 1 [(0, .int (nI a))] := hl
  refine lv_iload_n hx hb d_Pg_isInside_0 rfl (lv_at hl 0 rfl) ?_
  refine gc_S (n := 1) [.int (nI a)] [] hx hb hml hown hts hK hN hX hP hS (c_Pg_addressOf a (by omega)) k_561 k_562 k_1 k_563 (by decide +kernel) ⟨by decide, by decide⟩ rfl hl.1 rfl (Nat.le_of_ble_eq_true rfl) d_Pg_isInside_1 ⟨by decide, by decide⟩ (fun r N1 M_1 H locs hw hP hS => ?_)
  obtain ⟨rfl, hw⟩ := hw
  obtain ⟨rfl, rfl⟩ := hw
  refine W.eq (g2 := F0 m 4 ls [.int (nI (a / 256))]) rfl ?_
  refine lv_bipush (v := nI 127) hx hb d_Pg_isInside_4 (by decide) ?_
  refine ln_gt (tgt := 13) hx hb d_Pg_isInside_6 (by decide) (by omega) (by omega) (fun c_2 => ?_) (fun c_2 => ?_)
  · skip
    refine lv_iconst (v := nI 0) hx hb d_Pg_isInside_13 (by decide) ?_
    exact gc_zret hx hb hr hlk hP hS d_Pg_isInside_14 rfl (by first | exact ⟨rfl, Or.inl ⟨(by first | assumption | omega), rfl, rfl⟩⟩ | exact ⟨rfl, Or.inr ⟨(by first | assumption | omega), rfl, rfl⟩⟩)
  · skip
    refine lv_iconst (v := nI 1) hx hb d_Pg_isInside_9 (by decide) ?_
    refine lv_goto (tgt := 14) hx hb d_Pg_isInside_10 (by decide) ?_
    exact gc_zret hx hb hr hlk hP hS d_Pg_isInside_14 rfl (by first | exact ⟨rfl, Or.inl ⟨(by first | assumption | omega), rfl, rfl⟩⟩ | exact ⟨rfl, Or.inr ⟨(by first | assumption | omega), rfl, rfl⟩⟩)
set_option maxHeartbeats 4000000 in
set_option maxRecDepth 100000 in
theorem c_Pg_isOutside (a : Nat) (ha : a < 65536) : gC l D ca A G y_Pg_isOutside (.code y_Pg_isOutside b_Pg_isOutside 1 (some .boolean)) ({ frames := 2, cells := 0, slots := 0, locals := 40 }) N M [.int (nI a)] gm_i (fun (r : Int32) (N1 : Nat) (M1 : gm_M) => N = N1 ∧ (((127 < a / 256 ∧ a / 256 ≠ 200) ∧ M = M1 ∧ nI 1 = r) ∨ ((¬ (127 < a / 256 ∧ a / 256 ≠ 200)) ∧ M = M1 ∧ nI 0 = r))) := by
  refine gm_body (by decide) (Nat.le_of_ble_eq_true rfl) (fun p e s m below meth c ls hx hb hr hts hown hlk hml hnm hP hK hN hX hS hl => ?_)
  have htl : ∀ w ∈ LW, w.before _ s = true := fun w h => hts w (List.mem_cons_of_mem _ h)
  have hown : s.vm.findClass "PacketGate" = some m.cls := hown
  have hl : lv_has ls 1 [(0, .int (nI a))] := hl
  refine lv_iload_n hx hb d_Pg_isOutside_0 rfl (lv_at hl 0 rfl) ?_
  refine gc_S (n := 1) [.int (nI a)] [] hx hb hml hown hts hK hN hX hP hS (c_Pg_isInside a (by omega)) k_558 k_559 k_1 k_560 (by decide +kernel) ⟨by decide, by decide⟩ rfl hl.1 rfl (Nat.le_of_ble_eq_true rfl) d_Pg_isOutside_1 ⟨by decide, by decide⟩ (fun r N1 M_1 H locs hw hP hS => ?_)
  obtain ⟨rfl, hw⟩ := hw
  rcases hw with ⟨c_2, rfl, rfl⟩ | ⟨c_3, rfl, rfl⟩
  · skip
    refine W.eq (g2 := F0 m 4 ls [.int (nI 1)]) rfl ?_
    refine lv_if_ne (tgt := 21) hx hb d_Pg_isOutside_4 (by decide) (fun _ => ?_) (fun q => absurd q (by decide))
    refine lv_iconst (v := nI 0) hx hb d_Pg_isOutside_21 (by decide) ?_
    exact gc_zret hx hb hr hlk hP hS d_Pg_isOutside_22 rfl (by first | exact ⟨rfl, Or.inl ⟨(by first | assumption | omega), rfl, rfl⟩⟩ | exact ⟨rfl, Or.inr ⟨(by first | assumption | omega), rfl, rfl⟩⟩)
  · skip
    refine W.eq (g2 := F0 m 4 ls [.int (nI 0)]) rfl ?_
    refine lv_if_ne (tgt := 21) hx hb d_Pg_isOutside_4 (by decide) (fun q => absurd q (by decide)) (fun _ => ?_)
    refine lv_iload_n hx hb d_Pg_isOutside_7 rfl (lv_at hl 0 rfl) ?_
    refine gc_S (n := 1) [.int (nI a)] [] hx hb hml hown hts hK hN hX hP hS (c_Pg_addressOf a (by omega)) k_561 k_562 k_1 k_563 (by decide +kernel) ⟨by decide, by decide⟩ rfl hl.1 rfl (Nat.le_of_ble_eq_true rfl) d_Pg_isOutside_8 ⟨by decide, by decide⟩ (fun r N1 M_4 H locs hw hP hS => ?_)
    obtain ⟨rfl, hw⟩ := hw
    obtain ⟨rfl, rfl⟩ := hw
    refine W.eq (g2 := F0 m 11 ls [.int (nI (a / 256))]) rfl ?_
    refine lv_sipush (v := nI 200) hx hb d_Pg_isOutside_11 (by decide) ?_
    refine ln_eq (tgt := 21) hx hb d_Pg_isOutside_14 (by decide) (by omega) (by omega) (fun c_5 => ?_) (fun c_5 => ?_)
    · skip
      refine lv_iconst (v := nI 0) hx hb d_Pg_isOutside_21 (by decide) ?_
      exact gc_zret hx hb hr hlk hP hS d_Pg_isOutside_22 rfl (by first | exact ⟨rfl, Or.inl ⟨(by first | assumption | omega), rfl, rfl⟩⟩ | exact ⟨rfl, Or.inr ⟨(by first | assumption | omega), rfl, rfl⟩⟩)
    · skip
      refine lv_iconst (v := nI 1) hx hb d_Pg_isOutside_17 (by decide) ?_
      refine lv_goto (tgt := 22) hx hb d_Pg_isOutside_18 (by decide) ?_
      exact gc_zret hx hb hr hlk hP hS d_Pg_isOutside_22 rfl (by first | exact ⟨rfl, Or.inl ⟨(by first | assumption | omega), rfl, rfl⟩⟩ | exact ⟨rfl, Or.inr ⟨(by first | assumption | omega), rfl, rfl⟩⟩)
end C10
