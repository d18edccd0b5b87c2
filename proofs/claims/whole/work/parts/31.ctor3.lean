section C31
variable {l : Launch} {D : va_G} {ca : Nat → ClassId} {A : Nat → Prop} {G : gG} {N : Nat} {M : gm_M}

set_option maxHeartbeats 4000000 in
set_option maxRecDepth 100000 in
theorem c_Rb_init {x : Nat} (e1 : M x = some (.inr (6, [.null, .int 0]))) : gC l D ca A G y_Rb_init (.code y_Rb_init b_Rb_init 2 none) ({ frames := 2, cells := 52, slots := 204, locals := 40 }) N M [.ref x] gm_v (fun (_ : Unit) (N1 : Nat) (M1 : gm_M) => (N + 52) = N1 ∧ M1 x = some (.inr (6, [.ref N, .int (nI 0)])) ∧ M1 N = some (.inl (ca 2, 17, .inr (.inr (.inr (.inr (oF (seq3 (N + 1)))))))) ∧ (∀ fi, fi < 17 → M1 (seq3 (N + 1) fi) = some (.inr (5, [.int (nI 1), .int (nI 2), .int (nI 3), .ref (seq3 (N + 1) fi + 1), .ref (seq3 (N + 1) fi + 2)]))) ∧ (∀ fi, fi < 17 → M1 (seq3 (N + 1) fi + 1) = some (.inl (ca 0, 3, .inl (iN (fun _ => 0))))) ∧ (∀ fi, fi < 17 → M1 (seq3 (N + 1) fi + 2) = some (.inl (ca 0, 3, .inl (iN (fun _ => 0))))) ∧ (∀ z, z ≠ x → z ≠ N → z < N → M1 z = M z)) := by
  refine gm_body (by decide) (Nat.le_of_ble_eq_true rfl) (fun p e s m below meth c ls hx hb hr hts hown hlk hml hnm hP hK hN hX hS hl => ?_)
  have htl : ∀ w ∈ LW, w.before _ s = true := fun w h => hts w (List.mem_cons_of_mem _ h)
  have hown : s.vm.findClass "PacketGate$RuleBook" = some m.cls := hown
  have hl : lv_has ls 2 [(0, .ref x)] := hl
  have hA0 : ∀ q : Nat, s.heap.size ≤ q → A q := fun q h => hN q (by rw [← hP.1]; exact h)
  generalize hQ : MQ below _ _ s _ _ A = Q
  refine lv_aload_n hx hb d_Rb_init_0 rfl (lv_at hl 0 rfl) ?_
  refine W.objInit hx hb hown (htl _ k_57) (htl _ k_23) (htl _ k_24) rfl (by rw [hml]; exact hl.1) rfl d_Rb_init_1 (Nat.le_of_ble_eq_true rfl) (Nat.le_of_ble_eq_true rfl) ?_
  refine W.eq (g2 := F0 m 4 ls []) rfl ?_
  refine lv_aload_n hx hb d_Rb_init_4 rfl (lv_at hl 0 rfl) ?_
  refine lv_bipush (v := nI 17) hx hb d_Rb_init_5 (by decide) ?_
  have lt_1 := hP.lt e1
  refine gm_newq hx hb hown (htl _ k_58) hX.2.1.1 2 hK rfl hP hS hA0 (by decide) (show (nI 17).toNatClampNeg = 17 by decide) (by decide) (by decide) (by decide) d_Rb_init_7 (fun H hP hS => ?_)
  have hP : gm_P D cls A (N + 1) (gm_up M N (.inl (ca 2, 17, .inr (.inr (.inr (.inr (fun _ => none))))))) H := hP
  have h_2 := gm_pass (k := N) (y := .inl (ca 2, 17, .inr (.inr (.inr (.inr (fun _ => none)))))) e1 (by omega)
  have h_3 := gm_up_self M N (.inl (ca 2, 17, .inr (.inr (.inr (.inr (fun _ => none))))))
  refine W.widen (k := 1) (n := 17) (by decide) (by decide) ?_
  refine gm_putF (C := R_Rb) (T := F_Rb) (n := 2) (ty := .array (.object "PacketGate$Rule")) hx hb htl i_Rb t_Rb tk_Rb n_Rb hown hK hP hS h_2 rfl 0 (by decide) (htl _ k_86) (fun _ h => h) rfl hnm rfl (tk_Rb 0 (by decide)) rfl rfl (Nat.le_of_ble_eq_true rfl) d_Rb_init_10 (fun H locs hP hS => ?_)
  have hP : gm_P D cls A (N + 1) (gm_up (gm_up M N (.inl (ca 2, 17, .inr (.inr (.inr (.inr (fun _ => none))))))) x (.inr (6, [.ref N, .int 0]))) H := hP
  have h_4 := gm_pass (k := x) (y := .inr (6, [.ref N, .int 0])) h_3 (gm_ne h_3 h_2 (fun h => by cases h))
  have h_5 := gm_up_self (gm_up M N (.inl (ca 2, 17, .inr (.inr (.inr (.inr (fun _ => none))))))) x (.inr (6, [.ref N, .int 0]))
  refine lv_iconst (v := nI 0) hx hb d_Rb_init_13 (by decide) ?_
  refine lv_istore_n (lv' := [(1, .int (nI 0)), (0, .ref x)]) hx hb d_Rb_init_14 rfl hl (by decide) rfl (fun ls hl => ?_)
  have loop_15 : ∀ (fu : Nat) (i : Nat) (fq : Nat → Option Nat) (Mv : gm_M) (ls : Array Slot) (H : Heap) (locs : List Loc), (Mv x = some (.inr (6, [.ref N, .int 0]))) → (Mv N = some (.inl (ca 2, 17, .inr (.inr (.inr (.inr fq)))))) → (∀ fi, fi < i → Mv (seq3 (N + 1) fi) = some (.inr (5, [.int (nI 1), .int (nI 2), .int (nI 3), .ref (seq3 (N + 1) fi + 1), .ref (seq3 (N + 1) fi + 2)]))) → (∀ fi, fi < i → Mv (seq3 (N + 1) fi + 1) = some (.inl (ca 0, 3, .inl (iN (fun _ => 0))))) → (∀ fi, fi < i → Mv (seq3 (N + 1) fi + 2) = some (.inl (ca 0, 3, .inl (iN (fun _ => 0))))) → (∀ j, j < i → fq j = some (N + 1 + 3 * j)) → (i ≤ 17) → (∀ z, z ≠ x → z < N → Mv z = M z) → (17 - i) < fu → gm_P D cls A (N + 1 + 3 * i) Mv H → va_S A s.heap H locs → lv_has ls 2 [(0, .ref x), (1, .int (nI i))] → W p l e ({ frames := 2, cells := 52, slots := 204, locals := 40 }) s m ([.ref x] : List Value).toArray below meth c H locs (1 + 3 * i) (17 + 11 * i) Q (F0 m 15 ls []) := by
    intro fu
    induction fu with
    | zero => intro i fq Mv ls H locs e1v e2v hz1 hz2 hz3 hfq hi hfrv hk; exact absurd hk (Nat.not_lt_zero _)
    | succ fu ih_15 =>
      intro i fq Mv ls H locs e1v e2v hz1 hz2 hz3 hfq hi hfrv hk hP hS hl
      refine lv_iload_n hx hb d_Rb_init_15 rfl (lv_at hl 1 rfl) ?_
      refine lv_aload_n hx hb d_Rb_init_16 rfl (lv_at hl 0 rfl) ?_
      refine gm_get (C := R_Rb) (T := F_Rb) (n := 2) hx hb htl i_Rb hown hK hP e1v rfl 0 (by decide) (htl _ k_86) (fun _ h => h) rfl d_Rb_init_17 ?_
      refine gm_alen (v := nI 17) hx hb hK hP 2 e2v rfl rfl d_Rb_init_20 ?_
      refine ln_ge (tgt := 43) hx hb d_Rb_init_21 (by decide) (by omega) (by omega) (fun c_6 => ?_) (fun c_6 => ?_)
      · skip
        have hi16 : i = 17 := by omega
        have hP := gm_conv (f2 := oF (seq3 (N + 1))) hP e2v (fun j hj => hfq j (by omega))
        have hx1 := hP.1
        have hP : gm_P D cls A (N + 1 + 3 * i) (gm_up Mv N (.inl (ca 2, 17, .inr (.inr (.inr (.inr (oF (seq3 (N + 1))))))))) H := hP
        have h_7 := gm_pass (k := N) (y := .inl (ca 2, 17, .inr (.inr (.inr (.inr (oF (seq3 (N + 1)))))))) e1v (gm_ne e1v e2v (fun h => by cases h))
        have h_8 := gm_up_self Mv N (.inl (ca 2, 17, .inr (.inr (.inr (.inr (oF (seq3 (N + 1))))))))
        have hf_9 : ∀ fi, fi < i → (gm_up Mv N (.inl (ca 2, 17, .inr (.inr (.inr (.inr (oF (seq3 (N + 1))))))))) (seq3 (N + 1) fi) = some (.inr (5, [.int (nI 1), .int (nI 2), .int (nI 3), .ref (seq3 (N + 1) fi + 1), .ref (seq3 (N + 1) fi + 2)])) := fun fi hfi => gm_pass (k := N) (y := .inl (ca 2, 17, .inr (.inr (.inr (.inr (oF (seq3 (N + 1)))))))) (hz1 fi hfi) (gm_ne (hz1 fi hfi) e2v (fun h => by cases h))
        have hf_10 : ∀ fi, fi < i → (gm_up Mv N (.inl (ca 2, 17, .inr (.inr (.inr (.inr (oF (seq3 (N + 1))))))))) (seq3 (N + 1) fi + 1) = some (.inl (ca 0, 3, .inl (iN (fun _ => 0)))) := fun fi hfi => gm_pass (k := N) (y := .inl (ca 2, 17, .inr (.inr (.inr (.inr (oF (seq3 (N + 1)))))))) (hz2 fi hfi) (gm_ne (hz2 fi hfi) e2v (fun h => by simp at h))
        have hf_11 : ∀ fi, fi < i → (gm_up Mv N (.inl (ca 2, 17, .inr (.inr (.inr (.inr (oF (seq3 (N + 1))))))))) (seq3 (N + 1) fi + 2) = some (.inl (ca 0, 3, .inl (iN (fun _ => 0)))) := fun fi hfi => gm_pass (k := N) (y := .inl (ca 2, 17, .inr (.inr (.inr (.inr (oF (seq3 (N + 1)))))))) (hz3 fi hfi) (gm_ne (hz3 fi hfi) e2v (fun h => by simp at h))
        refine lv_aload_n hx hb d_Rb_init_43 rfl (lv_at hl 0 rfl) ?_
        refine lv_iconst (v := nI 0) hx hb d_Rb_init_44 (by decide) ?_
        refine gm_put (C := R_Rb) (T := F_Rb) (n := 2) (ty := .int) hx hb htl i_Rb t_Rb tk_Rb n_Rb hown hK hP hS h_7 rfl 1 (by decide) (htl _ k_87) (fun _ h => h) rfl (tk_Rb 1 (by decide)) rfl rfl (Nat.le_of_ble_eq_true rfl) d_Rb_init_45 (fun H locs hP hS => ?_)
        have hP : gm_P D cls A (N + 1 + 3 * i) (gm_up (gm_up Mv N (.inl (ca 2, 17, .inr (.inr (.inr (.inr (oF (seq3 (N + 1))))))))) x (.inr (6, [.ref N, .int (nI 0)]))) H := hP
        have h_12 := gm_pass (k := x) (y := .inr (6, [.ref N, .int (nI 0)])) h_8 (gm_ne h_8 h_7 (fun h => by cases h))
        have h_13 := gm_up_self (gm_up Mv N (.inl (ca 2, 17, .inr (.inr (.inr (.inr (oF (seq3 (N + 1))))))))) x (.inr (6, [.ref N, .int (nI 0)]))
        have hf_14 : ∀ fi, fi < i → (gm_up (gm_up Mv N (.inl (ca 2, 17, .inr (.inr (.inr (.inr (oF (seq3 (N + 1))))))))) x (.inr (6, [.ref N, .int (nI 0)]))) (seq3 (N + 1) fi) = some (.inr (5, [.int (nI 1), .int (nI 2), .int (nI 3), .ref (seq3 (N + 1) fi + 1), .ref (seq3 (N + 1) fi + 2)])) := fun fi hfi => gm_pass (k := x) (y := .inr (6, [.ref N, .int (nI 0)])) (hf_9 fi hfi) (gm_ne (hf_9 fi hfi) h_7 (fun h => by cases h))
        have hf_15 : ∀ fi, fi < i → (gm_up (gm_up Mv N (.inl (ca 2, 17, .inr (.inr (.inr (.inr (oF (seq3 (N + 1))))))))) x (.inr (6, [.ref N, .int (nI 0)]))) (seq3 (N + 1) fi + 1) = some (.inl (ca 0, 3, .inl (iN (fun _ => 0)))) := fun fi hfi => gm_pass (k := x) (y := .inr (6, [.ref N, .int (nI 0)])) (hf_10 fi hfi) (gm_ne (hf_10 fi hfi) h_7 (fun h => by cases h))
        have hf_16 : ∀ fi, fi < i → (gm_up (gm_up Mv N (.inl (ca 2, 17, .inr (.inr (.inr (.inr (oF (seq3 (N + 1))))))))) x (.inr (6, [.ref N, .int (nI 0)]))) (seq3 (N + 1) fi + 2) = some (.inl (ca 0, 3, .inl (iN (fun _ => 0)))) := fun fi hfi => gm_pass (k := x) (y := .inr (6, [.ref N, .int (nI 0)])) (hf_11 fi hfi) (gm_ne (hf_11 fi hfi) h_7 (fun h => by cases h))
        refine W.widen (k := 52) (n := 204) (by omega) (by omega) ?_
        rw [← hQ]
        exact gc_vret hx hb hr hlk hP hS d_Rb_init_48 ⟨by omega, h_13, h_12, (fun fi hfi => hf_14 fi (by omega)), (fun fi hfi => hf_15 fi (by omega)), (fun fi hfi => hf_16 fi (by omega)), (fun z q0 q1 hz => (gm_up_ne _ _ q0).trans ((gm_up_ne _ _ q1).trans ((hfrv z q0 (by omega)).trans (rfl))))⟩
      · skip
        refine lv_aload_n hx hb d_Rb_init_24 rfl (lv_at hl 0 rfl) ?_
        refine gm_get (C := R_Rb) (T := F_Rb) (n := 2) hx hb htl i_Rb hown hK hP e1v rfl 0 (by decide) (htl _ k_86) (fun _ h => h) rfl d_Rb_init_25 ?_
        refine lv_iload_n hx hb d_Rb_init_28 rfl (lv_at hl 1 rfl) ?_
        have lt_17 := hP.lt e1v
        have lt_18 := hP.lt e2v
        have ltf_19 : ∀ fi, fi < i → seq3 (N + 1) fi < N + 1 + 3 * i := fun fi hfi => hP.lt (hz1 fi hfi)
        have ltf_20 : ∀ fi, fi < i → seq3 (N + 1) fi + 1 < N + 1 + 3 * i := fun fi hfi => hP.lt (hz2 fi hfi)
        have ltf_21 : ∀ fi, fi < i → seq3 (N + 1) fi + 2 < N + 1 + 3 * i := fun fi hfi => hP.lt (hz3 fi hfi)
        refine gm_new (ci := 5) (fs := [.int 0, .int 0, .int 0, .null, .null]) (C := R_Ru) (T := F_Ru) (n := 5) hx hb htl i_Ru t_Ru tk_Ru hown (htl _ k_58) (htl _ k_60) (htl _ k_5) hK hP hS hA0 rfl (fun j hj => by rcases (show j = 0 ∨ j = 1 ∨ j = 2 ∨ j = 3 ∨ j = 4 by omega) with rfl | rfl | rfl | rfl | rfl <;> rfl) (show 1 + 3 * i + 1 ≤ 52 by omega) (show 17 + 11 * i + 5 ≤ 204 by omega) d_Rb_init_29 (fun H hP hS => ?_)
        have hP : gm_P D cls A (N + 1 + 3 * i + 1) (gm_up Mv (N + 1 + 3 * i) (.inr (5, [.int 0, .int 0, .int 0, .null, .null]))) H := hP
        have h_22 := gm_pass (k := (N + 1 + 3 * i)) (y := .inr (5, [.int 0, .int 0, .int 0, .null, .null])) e1v (by omega)
        have h_23 := gm_pass (k := (N + 1 + 3 * i)) (y := .inr (5, [.int 0, .int 0, .int 0, .null, .null])) e2v (by omega)
        have hf_24 : ∀ fi, fi < i → (gm_up Mv (N + 1 + 3 * i) (.inr (5, [.int 0, .int 0, .int 0, .null, .null]))) (seq3 (N + 1) fi) = some (.inr (5, [.int (nI 1), .int (nI 2), .int (nI 3), .ref (seq3 (N + 1) fi + 1), .ref (seq3 (N + 1) fi + 2)])) := fun fi hfi => gm_pass (k := (N + 1 + 3 * i)) (y := .inr (5, [.int 0, .int 0, .int 0, .null, .null])) (hz1 fi hfi) (by have := ltf_19 fi hfi; omega)
        have hf_25 : ∀ fi, fi < i → (gm_up Mv (N + 1 + 3 * i) (.inr (5, [.int 0, .int 0, .int 0, .null, .null]))) (seq3 (N + 1) fi + 1) = some (.inl (ca 0, 3, .inl (iN (fun _ => 0)))) := fun fi hfi => gm_pass (k := (N + 1 + 3 * i)) (y := .inr (5, [.int 0, .int 0, .int 0, .null, .null])) (hz2 fi hfi) (by have := ltf_20 fi hfi; omega)
        have hf_26 : ∀ fi, fi < i → (gm_up Mv (N + 1 + 3 * i) (.inr (5, [.int 0, .int 0, .int 0, .null, .null]))) (seq3 (N + 1) fi + 2) = some (.inl (ca 0, 3, .inl (iN (fun _ => 0)))) := fun fi hfi => gm_pass (k := (N + 1 + 3 * i)) (y := .inr (5, [.int 0, .int 0, .int 0, .null, .null])) (hz3 fi hfi) (by have := ltf_21 fi hfi; omega)
        have h_27 := gm_up_self Mv (N + 1 + 3 * i) (.inr (5, [.int 0, .int 0, .int 0, .null, .null]))
        refine lv_dup hx hb d_Rb_init_32 rfl ?_
        have lt_29 := hP.lt h_22
        have lt_30 := hP.lt h_23
        have lt_31 := hP.lt h_27
        have ltf_32 : ∀ fi, fi < i → seq3 (N + 1) fi < N + 1 + 3 * i + 1 := fun fi hfi => hP.lt (hf_24 fi hfi)
        have ltf_33 : ∀ fi, fi < i → seq3 (N + 1) fi + 1 < N + 1 + 3 * i + 1 := fun fi hfi => hP.lt (hf_25 fi hfi)
        have ltf_34 : ∀ fi, fi < i → seq3 (N + 1) fi + 2 < N + 1 + 3 * i + 1 := fun fi hfi => hP.lt (hf_26 fi hfi)
        refine gc_I (n := 0) [] [.ref (N + 1 + 3 * i), .int (nI i), .ref N] hx hb hml hown hts hK (fun q hq => hN q (by omega)) hX hP hS (c_Ru_init h_27) k_61 k_62 k_5 k_63 rfl (by decide +kernel) ⟨by decide, by decide⟩ rfl hl.1 rfl (Nat.le_of_ble_eq_true rfl) d_Rb_init_33 ⟨show 1 + 3 * i + 1 + 2 ≤ 52 by omega, show 17 + 11 * i + 5 + 6 ≤ 204 by omega⟩ (fun r N1 M_28 H locs hw hP hS => ?_)
        obtain ⟨rfl, hw⟩ := hw
        obtain rfl := hw
        have he_35 : gm_up (gm_up Mv (N + 1 + 3 * i) (.inr (5, [.int 0, .int 0, .int 0, .null, .null]))) (N + 1 + 3 * i) (.inr (5, [.int (nI 1), .int (nI 2), .int (nI 3), .ref (N + 1 + 3 * i + 1), .ref (N + 1 + 3 * i + 2)])) = gm_up Mv (N + 1 + 3 * i) (.inr (5, [.int (nI 1), .int (nI 2), .int (nI 3), .ref (N + 1 + 3 * i + 1), .ref (N + 1 + 3 * i + 2)])) := gm_up_up _ _ _ _
        have hP := Eq.mp (congrArg (fun Z => gm_P D cls A (N + 1 + 3 * i + 3) (gm_up (gm_up Z (N + 1 + 3 * i + 1) (.inl (ca 0, 3, .inl (iN (fun _ => 0))))) (N + 1 + 3 * i + 2) (.inl (ca 0, 3, .inl (iN (fun _ => 0))))) H) he_35) hP
        have h_36 := (congrFun he_35 _).symm.trans (gm_pass (k := (N + 1 + 3 * i)) (y := .inr (5, [.int (nI 1), .int (nI 2), .int (nI 3), .ref (N + 1 + 3 * i + 1), .ref (N + 1 + 3 * i + 2)])) h_22 (gm_ne h_22 h_27 (fun h => by cases h)))
        have h_37 := (congrFun he_35 _).symm.trans (gm_pass (k := (N + 1 + 3 * i)) (y := .inr (5, [.int (nI 1), .int (nI 2), .int (nI 3), .ref (N + 1 + 3 * i + 1), .ref (N + 1 + 3 * i + 2)])) h_23 (gm_ne h_23 h_27 (fun h => by cases h)))
        have h_38 := (congrFun he_35 _).symm.trans (gm_up_self (gm_up Mv (N + 1 + 3 * i) (.inr (5, [.int 0, .int 0, .int 0, .null, .null]))) (N + 1 + 3 * i) (.inr (5, [.int (nI 1), .int (nI 2), .int (nI 3), .ref (N + 1 + 3 * i + 1), .ref (N + 1 + 3 * i + 2)])))
        have hf_39 : ∀ fi, fi < i → (gm_up Mv (N + 1 + 3 * i) (.inr (5, [.int (nI 1), .int (nI 2), .int (nI 3), .ref (N + 1 + 3 * i + 1), .ref (N + 1 + 3 * i + 2)]))) (seq3 (N + 1) fi) = some (.inr (5, [.int (nI 1), .int (nI 2), .int (nI 3), .ref (seq3 (N + 1) fi + 1), .ref (seq3 (N + 1) fi + 2)])) := fun fi hfi => (congrFun he_35 _).symm.trans (gm_pass (k := (N + 1 + 3 * i)) (y := .inr (5, [.int (nI 1), .int (nI 2), .int (nI 3), .ref (N + 1 + 3 * i + 1), .ref (N + 1 + 3 * i + 2)])) (hf_24 fi hfi) (by unfold seq3; omega))
        have hf_40 : ∀ fi, fi < i → (gm_up Mv (N + 1 + 3 * i) (.inr (5, [.int (nI 1), .int (nI 2), .int (nI 3), .ref (N + 1 + 3 * i + 1), .ref (N + 1 + 3 * i + 2)]))) (seq3 (N + 1) fi + 1) = some (.inl (ca 0, 3, .inl (iN (fun _ => 0)))) := fun fi hfi => (congrFun he_35 _).symm.trans (gm_pass (k := (N + 1 + 3 * i)) (y := .inr (5, [.int (nI 1), .int (nI 2), .int (nI 3), .ref (N + 1 + 3 * i + 1), .ref (N + 1 + 3 * i + 2)])) (hf_25 fi hfi) (by unfold seq3; omega))
        have hf_41 : ∀ fi, fi < i → (gm_up Mv (N + 1 + 3 * i) (.inr (5, [.int (nI 1), .int (nI 2), .int (nI 3), .ref (N + 1 + 3 * i + 1), .ref (N + 1 + 3 * i + 2)]))) (seq3 (N + 1) fi + 2) = some (.inl (ca 0, 3, .inl (iN (fun _ => 0)))) := fun fi hfi => (congrFun he_35 _).symm.trans (gm_pass (k := (N + 1 + 3 * i)) (y := .inr (5, [.int (nI 1), .int (nI 2), .int (nI 3), .ref (N + 1 + 3 * i + 1), .ref (N + 1 + 3 * i + 2)])) (hf_26 fi hfi) (by unfold seq3; omega))
        have h_42 := gm_pass (k := (N + 1 + 3 * i + 1)) (y := .inl (ca 0, 3, .inl (iN (fun _ => 0)))) h_36 (by omega)
        have h_43 := gm_pass (k := (N + 1 + 3 * i + 1)) (y := .inl (ca 0, 3, .inl (iN (fun _ => 0)))) h_37 (by omega)
        have h_44 := gm_pass (k := (N + 1 + 3 * i + 1)) (y := .inl (ca 0, 3, .inl (iN (fun _ => 0)))) h_38 (by omega)
        have hf_45 : ∀ fi, fi < i → (gm_up (gm_up Mv (N + 1 + 3 * i) (.inr (5, [.int (nI 1), .int (nI 2), .int (nI 3), .ref (N + 1 + 3 * i + 1), .ref (N + 1 + 3 * i + 2)]))) (N + 1 + 3 * i + 1) (.inl (ca 0, 3, .inl (iN (fun _ => 0))))) (seq3 (N + 1) fi) = some (.inr (5, [.int (nI 1), .int (nI 2), .int (nI 3), .ref (seq3 (N + 1) fi + 1), .ref (seq3 (N + 1) fi + 2)])) := fun fi hfi => gm_pass (k := (N + 1 + 3 * i + 1)) (y := .inl (ca 0, 3, .inl (iN (fun _ => 0)))) (hf_39 fi hfi) (by have := ltf_32 fi hfi; omega)
        have hf_46 : ∀ fi, fi < i → (gm_up (gm_up Mv (N + 1 + 3 * i) (.inr (5, [.int (nI 1), .int (nI 2), .int (nI 3), .ref (N + 1 + 3 * i + 1), .ref (N + 1 + 3 * i + 2)]))) (N + 1 + 3 * i + 1) (.inl (ca 0, 3, .inl (iN (fun _ => 0))))) (seq3 (N + 1) fi + 1) = some (.inl (ca 0, 3, .inl (iN (fun _ => 0)))) := fun fi hfi => gm_pass (k := (N + 1 + 3 * i + 1)) (y := .inl (ca 0, 3, .inl (iN (fun _ => 0)))) (hf_40 fi hfi) (by have := ltf_33 fi hfi; omega)
        have hf_47 : ∀ fi, fi < i → (gm_up (gm_up Mv (N + 1 + 3 * i) (.inr (5, [.int (nI 1), .int (nI 2), .int (nI 3), .ref (N + 1 + 3 * i + 1), .ref (N + 1 + 3 * i + 2)]))) (N + 1 + 3 * i + 1) (.inl (ca 0, 3, .inl (iN (fun _ => 0))))) (seq3 (N + 1) fi + 2) = some (.inl (ca 0, 3, .inl (iN (fun _ => 0)))) := fun fi hfi => gm_pass (k := (N + 1 + 3 * i + 1)) (y := .inl (ca 0, 3, .inl (iN (fun _ => 0)))) (hf_41 fi hfi) (by have := ltf_34 fi hfi; omega)
        have h_48 := gm_up_self (gm_up Mv (N + 1 + 3 * i) (.inr (5, [.int (nI 1), .int (nI 2), .int (nI 3), .ref (N + 1 + 3 * i + 1), .ref (N + 1 + 3 * i + 2)]))) (N + 1 + 3 * i + 1) (.inl (ca 0, 3, .inl (iN (fun _ => 0))))
        have hP : gm_P D cls A (N + 1 + 3 * i + 3) (gm_up (gm_up (gm_up Mv (N + 1 + 3 * i) (.inr (5, [.int (nI 1), .int (nI 2), .int (nI 3), .ref (N + 1 + 3 * i + 1), .ref (N + 1 + 3 * i + 2)]))) (N + 1 + 3 * i + 1) (.inl (ca 0, 3, .inl (iN (fun _ => 0))))) (N + 1 + 3 * i + 2) (.inl (ca 0, 3, .inl (iN (fun _ => 0))))) H := hP
        have h_49 := gm_pass (k := (N + 1 + 3 * i + 2)) (y := .inl (ca 0, 3, .inl (iN (fun _ => 0)))) h_42 (by omega)
        have h_50 := gm_pass (k := (N + 1 + 3 * i + 2)) (y := .inl (ca 0, 3, .inl (iN (fun _ => 0)))) h_43 (by omega)
        have h_51 := gm_pass (k := (N + 1 + 3 * i + 2)) (y := .inl (ca 0, 3, .inl (iN (fun _ => 0)))) h_44 (by omega)
        have h_52 := gm_pass (k := (N + 1 + 3 * i + 2)) (y := .inl (ca 0, 3, .inl (iN (fun _ => 0)))) h_48 (by omega)
        have hf_53 : ∀ fi, fi < i → (gm_up (gm_up (gm_up Mv (N + 1 + 3 * i) (.inr (5, [.int (nI 1), .int (nI 2), .int (nI 3), .ref (N + 1 + 3 * i + 1), .ref (N + 1 + 3 * i + 2)]))) (N + 1 + 3 * i + 1) (.inl (ca 0, 3, .inl (iN (fun _ => 0))))) (N + 1 + 3 * i + 2) (.inl (ca 0, 3, .inl (iN (fun _ => 0))))) (seq3 (N + 1) fi) = some (.inr (5, [.int (nI 1), .int (nI 2), .int (nI 3), .ref (seq3 (N + 1) fi + 1), .ref (seq3 (N + 1) fi + 2)])) := fun fi hfi => gm_pass (k := (N + 1 + 3 * i + 2)) (y := .inl (ca 0, 3, .inl (iN (fun _ => 0)))) (hf_45 fi hfi) (by have := ltf_32 fi hfi; omega)
        have hf_54 : ∀ fi, fi < i → (gm_up (gm_up (gm_up Mv (N + 1 + 3 * i) (.inr (5, [.int (nI 1), .int (nI 2), .int (nI 3), .ref (N + 1 + 3 * i + 1), .ref (N + 1 + 3 * i + 2)]))) (N + 1 + 3 * i + 1) (.inl (ca 0, 3, .inl (iN (fun _ => 0))))) (N + 1 + 3 * i + 2) (.inl (ca 0, 3, .inl (iN (fun _ => 0))))) (seq3 (N + 1) fi + 1) = some (.inl (ca 0, 3, .inl (iN (fun _ => 0)))) := fun fi hfi => gm_pass (k := (N + 1 + 3 * i + 2)) (y := .inl (ca 0, 3, .inl (iN (fun _ => 0)))) (hf_46 fi hfi) (by have := ltf_33 fi hfi; omega)
        have hf_55 : ∀ fi, fi < i → (gm_up (gm_up (gm_up Mv (N + 1 + 3 * i) (.inr (5, [.int (nI 1), .int (nI 2), .int (nI 3), .ref (N + 1 + 3 * i + 1), .ref (N + 1 + 3 * i + 2)]))) (N + 1 + 3 * i + 1) (.inl (ca 0, 3, .inl (iN (fun _ => 0))))) (N + 1 + 3 * i + 2) (.inl (ca 0, 3, .inl (iN (fun _ => 0))))) (seq3 (N + 1) fi + 2) = some (.inl (ca 0, 3, .inl (iN (fun _ => 0)))) := fun fi hfi => gm_pass (k := (N + 1 + 3 * i + 2)) (y := .inl (ca 0, 3, .inl (iN (fun _ => 0)))) (hf_47 fi hfi) (by have := ltf_34 fi hfi; omega)
        have h_56 := gm_up_self (gm_up (gm_up Mv (N + 1 + 3 * i) (.inr (5, [.int (nI 1), .int (nI 2), .int (nI 3), .ref (N + 1 + 3 * i + 1), .ref (N + 1 + 3 * i + 2)]))) (N + 1 + 3 * i + 1) (.inl (ca 0, 3, .inl (iN (fun _ => 0))))) (N + 1 + 3 * i + 2) (.inl (ca 0, 3, .inl (iN (fun _ => 0))))
        refine W.eq (g2 := F0 m 36 ls [.ref (N + 1 + 3 * i), .int (nI i), .ref N]) rfl ?_
        refine gn_aast hx hb hK hP hS 2 5 h_50 rfl h_51 rfl (by omega) (by omega) d_Rb_init_36 (fun H locs hP hS => ?_)
        have hP : gm_P D cls A (N + 1 + 3 * i + 3) (gm_up (gm_up (gm_up (gm_up Mv (N + 1 + 3 * i) (.inr (5, [.int (nI 1), .int (nI 2), .int (nI 3), .ref (N + 1 + 3 * i + 1), .ref (N + 1 + 3 * i + 2)]))) (N + 1 + 3 * i + 1) (.inl (ca 0, 3, .inl (iN (fun _ => 0))))) (N + 1 + 3 * i + 2) (.inl (ca 0, 3, .inl (iN (fun _ => 0))))) N (.inl (ca 2, 17, .inr (.inr (.inr (.inr (va_up fq i (some (N + 1 + 3 * i))))))))) H := hP
        have h_57 := gm_pass (k := N) (y := .inl (ca 2, 17, .inr (.inr (.inr (.inr (va_up fq i (some (N + 1 + 3 * i)))))))) h_49 (gm_ne h_49 h_50 (fun h => by cases h))
        have h_58 := gm_pass (k := N) (y := .inl (ca 2, 17, .inr (.inr (.inr (.inr (va_up fq i (some (N + 1 + 3 * i)))))))) h_51 (gm_ne h_51 h_50 (fun h => by cases h))
        have h_59 := gm_pass (k := N) (y := .inl (ca 2, 17, .inr (.inr (.inr (.inr (va_up fq i (some (N + 1 + 3 * i)))))))) h_52 (gm_ne h_52 h_50 (fun h => by simp at h))
        have h_60 := gm_pass (k := N) (y := .inl (ca 2, 17, .inr (.inr (.inr (.inr (va_up fq i (some (N + 1 + 3 * i)))))))) h_56 (gm_ne h_56 h_50 (fun h => by simp at h))
        have h_61 := gm_up_self (gm_up (gm_up (gm_up Mv (N + 1 + 3 * i) (.inr (5, [.int (nI 1), .int (nI 2), .int (nI 3), .ref (N + 1 + 3 * i + 1), .ref (N + 1 + 3 * i + 2)]))) (N + 1 + 3 * i + 1) (.inl (ca 0, 3, .inl (iN (fun _ => 0))))) (N + 1 + 3 * i + 2) (.inl (ca 0, 3, .inl (iN (fun _ => 0))))) N (.inl (ca 2, 17, .inr (.inr (.inr (.inr (va_up fq i (some (N + 1 + 3 * i))))))))
        have hf_62 : ∀ fi, fi < i → (gm_up (gm_up (gm_up (gm_up Mv (N + 1 + 3 * i) (.inr (5, [.int (nI 1), .int (nI 2), .int (nI 3), .ref (N + 1 + 3 * i + 1), .ref (N + 1 + 3 * i + 2)]))) (N + 1 + 3 * i + 1) (.inl (ca 0, 3, .inl (iN (fun _ => 0))))) (N + 1 + 3 * i + 2) (.inl (ca 0, 3, .inl (iN (fun _ => 0))))) N (.inl (ca 2, 17, .inr (.inr (.inr (.inr (va_up fq i (some (N + 1 + 3 * i))))))))) (seq3 (N + 1) fi) = some (.inr (5, [.int (nI 1), .int (nI 2), .int (nI 3), .ref (seq3 (N + 1) fi + 1), .ref (seq3 (N + 1) fi + 2)])) := fun fi hfi => gm_pass (k := N) (y := .inl (ca 2, 17, .inr (.inr (.inr (.inr (va_up fq i (some (N + 1 + 3 * i)))))))) (hf_53 fi hfi) (gm_ne (hf_53 fi hfi) h_50 (fun h => by cases h))
        have hf_63 : ∀ fi, fi < i → (gm_up (gm_up (gm_up (gm_up Mv (N + 1 + 3 * i) (.inr (5, [.int (nI 1), .int (nI 2), .int (nI 3), .ref (N + 1 + 3 * i + 1), .ref (N + 1 + 3 * i + 2)]))) (N + 1 + 3 * i + 1) (.inl (ca 0, 3, .inl (iN (fun _ => 0))))) (N + 1 + 3 * i + 2) (.inl (ca 0, 3, .inl (iN (fun _ => 0))))) N (.inl (ca 2, 17, .inr (.inr (.inr (.inr (va_up fq i (some (N + 1 + 3 * i))))))))) (seq3 (N + 1) fi + 1) = some (.inl (ca 0, 3, .inl (iN (fun _ => 0)))) := fun fi hfi => gm_pass (k := N) (y := .inl (ca 2, 17, .inr (.inr (.inr (.inr (va_up fq i (some (N + 1 + 3 * i)))))))) (hf_54 fi hfi) (gm_ne (hf_54 fi hfi) h_50 (fun h => by simp at h))
        have hf_64 : ∀ fi, fi < i → (gm_up (gm_up (gm_up (gm_up Mv (N + 1 + 3 * i) (.inr (5, [.int (nI 1), .int (nI 2), .int (nI 3), .ref (N + 1 + 3 * i + 1), .ref (N + 1 + 3 * i + 2)]))) (N + 1 + 3 * i + 1) (.inl (ca 0, 3, .inl (iN (fun _ => 0))))) (N + 1 + 3 * i + 2) (.inl (ca 0, 3, .inl (iN (fun _ => 0))))) N (.inl (ca 2, 17, .inr (.inr (.inr (.inr (va_up fq i (some (N + 1 + 3 * i))))))))) (seq3 (N + 1) fi + 2) = some (.inl (ca 0, 3, .inl (iN (fun _ => 0)))) := fun fi hfi => gm_pass (k := N) (y := .inl (ca 2, 17, .inr (.inr (.inr (.inr (va_up fq i (some (N + 1 + 3 * i)))))))) (hf_55 fi hfi) (gm_ne (hf_55 fi hfi) h_50 (fun h => by simp at h))
        refine lv_iinc (v := nI (i + 1)) (lv' := [(1, .int (nI (i + 1))), (0, .ref x)]) hx hb d_Rb_init_37 hl (k := 1) rfl (nI_1 i) (by decide) rfl (fun ls hl => ?_)
        refine lv_goto (tgt := 15) hx hb d_Rb_init_40 (by decide) ?_
        refine W.widen (k := 1 + 3 * (i + 1)) (n := 17 + 11 * (i + 1)) (show 1 + 3 * i + 1 + 2 ≤ 1 + 3 * (i + 1) by omega) (show 17 + 11 * i + 5 + 6 ≤ 17 + 11 * (i + 1) by omega) ?_
        exact ih_15 (i + 1) (va_up fq i (some (N + 1 + 3 * i))) _ ls _ _ h_57 h_61 (fun fi hfi => by by_cases q : fi = i; subst q; exact h_58; exact hf_62 fi (by omega)) (fun fi hfi => by by_cases q : fi = i; subst q; exact h_59; exact hf_63 fi (by omega)) (fun fi hfi => by by_cases q : fi = i; subst q; exact h_60; exact hf_64 fi (by omega)) (fun j hj => by by_cases q : j = i; subst q; exact va_up_self _ _ _; exact (va_up_ne _ _ q).trans (hfq j (by omega))) (by omega) (fun z q0 hz => (gm_up_ne _ _ (by omega)).trans ((gm_up_ne _ _ (by omega)).trans ((gm_up_ne _ _ (by omega)).trans ((gm_up_ne _ _ (by omega)).trans ((hfrv z q0 (by omega)).trans (rfl)))))) (by omega) (by rw [show N + 1 + 3 * (i + 1) = N + 1 + 3 * i + 3 from (by omega)]; exact hP) hS (lv_sub hl [1, 0] rfl)
  exact loop_15 (_ + 1) 0 (fun _ => none) _ ls _ locs h_5 h_4 (fun fi hfi => absurd hfi (Nat.not_lt_zero _)) (fun fi hfi => absurd hfi (Nat.not_lt_zero _)) (fun fi hfi => absurd hfi (Nat.not_lt_zero _)) (fun j hj => absurd hj (Nat.not_lt_zero _)) (Nat.zero_le _) (fun z q0 hz => (gm_up_ne _ _ q0).trans ((gm_up_ne _ _ (by omega)).trans (rfl))) (Nat.lt_succ_self _) hP hS (lv_sub hl [1, 0] rfl)
end C31
