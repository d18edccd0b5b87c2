section C50
variable {l : Launch} {D : va_G} {ca : Nat → ClassId} {A : Nat → Prop} {G : gG} {N : Nat} {M : gm_M}

theorem okR_seq (a : Nat) : okR a (seq3 a) := by
  refine ⟨fun i hi => ?_, fun i j hi hj q => ?_⟩ <;> unfold seq3 <;> omega
theorem okA_seq (a : Nat) : okA a (seq1 a) := by
  refine ⟨fun i hi => ?_, fun i j hi hj q => ?_⟩
  · unfold seq1; omega
  · unfold seq1 at q; omega
set_option maxHeartbeats 4000000 in
set_option maxRecDepth 100000 in
theorem law_new {p : Program} {l : Launch} {e : Env} {s : State} {m : MethodId} {below : List Frame} {meth : Method} {c : Code} {D : va_G} {ca : Nat → ClassId} {A : Nat → Prop} {G : gG} {b N : Nat} {M : gm_M} {Q : State → Prop} {ls : Array Slot} {cw0 : Cond} (hx : p.tables.exec = Jvm.exec) (hb : c.code = code) (hml : c.maxLocals = 4) (hown : s.vm.findClass "PacketGateLaw" = some m.cls) (hts : ∀ w ∈ cw0 :: LW, w.before #[Value.ref b] s = true) (hK : va_K D cls (tyL ca) s) (hN : ∀ q : Nat, N ≤ q → A q) (hX : gX A G s) (hP : gm_P D cls A N M s.heap) (hS : va_S A s.heap s.heap []) (hA0 : ∀ q : Nat, s.heap.size ≤ q → A q) (hl : lv_has ls 4 [(0, .ref b)])
    (kk : ∀ (M1 : gm_M) (H : Heap) (locs : List Loc) (ls : Array Slot), LwS ca N (N + 84) 0 M1 → gm_P D cls A (N + 112) M1 H → va_S A s.heap H locs → lv_has ls 4 [(0, .ref b), (1, .ref N), (2, .ref (N + 84)), (3, .int (nI 0))] → W p l e room_1 s m #[Value.ref b] below meth c H locs 112 2520 Q (F0 m 18 ls [])) : W p l e room_1 s m #[Value.ref b] below meth c s.heap [] 0 0 Q (F0 m 0 ls []) := by
  have htl : ∀ w ∈ LW, w.before #[Value.ref b] s = true := fun w h => hts w (List.mem_cons_of_mem _ h)
  refine gm_new (ci := 8) (fs := [.null, .null, .null, .null, .null, .null, .null, .null, .null, .int 0, .int 0, .int 0, .int 0, .int 0, .int 0]) (C := R_Pg) (T := F_Pg) (n := 15) hx hb htl i_Pg t_Pg tk_Pg hown (htl _ k_17) (htl _ k_18) (htl _ k_1) hK hP hS hA0 rfl (fun j hj => by rcases (show j = 0 ∨ j = 1 ∨ j = 2 ∨ j = 3 ∨ j = 4 ∨ j = 5 ∨ j = 6 ∨ j = 7 ∨ j = 8 ∨ j = 9 ∨ j = 10 ∨ j = 11 ∨ j = 12 ∨ j = 13 ∨ j = 14 by omega) with rfl | rfl | rfl | rfl | rfl | rfl | rfl | rfl | rfl | rfl | rfl | rfl | rfl | rfl | rfl <;> rfl) (by decide) (by decide) d_law_0 (fun H hP hS => ?_)
  have hP : gm_P D cls A (N + 1) (gm_up M N (.inr (8, [.null, .null, .null, .null, .null, .null, .null, .null, .null, .int 0, .int 0, .int 0, .int 0, .int 0, .int 0]))) H := hP
  have h_1 := gm_up_self M N (.inr (8, [.null, .null, .null, .null, .null, .null, .null, .null, .null, .int 0, .int 0, .int 0, .int 0, .int 0, .int 0]))
  refine W.widen (k := 1) (n := 15) (by decide) (by decide) ?_
  refine lv_dup hx hb d_law_3 rfl ?_
  have lt_3 := hP.lt h_1
  refine gc_I (n := 0) [] [.ref N] hx hb hml hown hts hK (fun q hq => hN q (by omega)) hX hP hS (c_Pg_init h_1) k_19 k_20 k_1 k_21 rfl (by decide +kernel) ⟨by decide, by decide⟩ rfl hl.1 rfl (Nat.le_of_ble_eq_true rfl) d_law_4 ⟨by decide, by decide⟩ (fun r N1 M_2 H locs hw hP hS => ?_)
  obtain ⟨rfl, hw⟩ := hw
  obtain ⟨h_4, h_5, h_6, h_7, h_8, h_9, h_10, h_11, h_12, h_13, h_14, h_15, h_16, h_17, h_18, h_19, h_20, hfm_21, hfm_22, hfm_23, hfm_24, hfr_25⟩ := hw
  refine W.eq (g2 := F0 m 7 ls [.ref N]) rfl ?_
  refine W.widen (k := 84) (n := 1015) (by decide) (by decide) ?_
  have hq_26 : ∀ fi, fi < 17 → M_2 (seq3 (N + 6) fi) = some (.inr (5, [.int (nI 1), .int (nI 2), .int (nI 3), .ref (seq3 (N + 6) fi + 1), .ref (seq3 (N + 6) fi + 2)])) := hfm_21
  have hq_27 : ∀ fi, fi < 17 → M_2 (seq3 (N + 6) fi + 1) = some (.inl (ca 0, 3, .inl (iN (fun _ => 0)))) := hfm_22
  have hq_28 : ∀ fi, fi < 17 → M_2 (seq3 (N + 6) fi + 2) = some (.inl (ca 0, 3, .inl (iN (fun _ => 0)))) := hfm_23
  have hq_29 : ∀ fi, fi < 16 → M_2 (seq1 (N + 65) fi) = some (.inr (2, [.int 0, .int 0, .int 0, .int 0, .int (nI 0), .int 0, .int 0, .int 0])) := hfm_24
  refine lv_astore_n (lv' := [(1, .ref N), (0, .ref b)]) hx hb d_law_7 rfl hl (by decide) rfl (fun ls hl => ?_)
  have lt_30 := hP.lt h_4
  have lt_31 := hP.lt h_5
  have lt_32 := hP.lt h_6
  have lt_33 := hP.lt h_7
  have lt_34 := hP.lt h_8
  have lt_35 := hP.lt h_9
  have lt_36 := hP.lt h_10
  have lt_37 := hP.lt h_11
  have lt_38 := hP.lt h_12
  have lt_39 := hP.lt h_13
  have lt_40 := hP.lt h_14
  have lt_41 := hP.lt h_15
  have lt_42 := hP.lt h_16
  have lt_43 := hP.lt h_17
  have lt_44 := hP.lt h_18
  have lt_45 := hP.lt h_19
  have lt_46 := hP.lt h_20
  have ltf_47 : ∀ fi, fi < 17 → seq3 (N + 6) fi < N + 84 := fun fi hfi => hP.lt (hq_26 fi hfi)
  have ltf_48 : ∀ fi, fi < 17 → seq3 (N + 6) fi + 1 < N + 84 := fun fi hfi => hP.lt (hq_27 fi hfi)
  have ltf_49 : ∀ fi, fi < 17 → seq3 (N + 6) fi + 2 < N + 84 := fun fi hfi => hP.lt (hq_28 fi hfi)
  have ltf_50 : ∀ fi, fi < 16 → seq1 (N + 65) fi < N + 84 := fun fi hfi => hP.lt (hq_29 fi hfi)
  refine gm_new (ci := 9) (fs := [.null, .int 0, .int 0, .null, .null, .null, .null, .null, .int 0, .null, .null, .int 0, .null, .int 0, .null, .null, .null, .null, .int 0, .null, .null, .null, .null, .null, .null, .null, .null, .null, .null, .int 0, .null, .null, .int 0, .null, .null, .int 0, .int 0, .int 0, .int 0, .int 0, .int 0, .int 0, .int 0, .int 0]) (C := R_Mo) (T := F_Mo) (n := 44) hx hb htl i_Mo t_Mo tk_Mo hown (htl _ k_737) (htl _ k_738) (htl _ k_10) hK hP hS hA0 rfl (fun j hj => by rcases (show j = 0 ∨ j = 1 ∨ j = 2 ∨ j = 3 ∨ j = 4 ∨ j = 5 ∨ j = 6 ∨ j = 7 ∨ j = 8 ∨ j = 9 ∨ j = 10 ∨ j = 11 ∨ j = 12 ∨ j = 13 ∨ j = 14 ∨ j = 15 ∨ j = 16 ∨ j = 17 ∨ j = 18 ∨ j = 19 ∨ j = 20 ∨ j = 21 ∨ j = 22 ∨ j = 23 ∨ j = 24 ∨ j = 25 ∨ j = 26 ∨ j = 27 ∨ j = 28 ∨ j = 29 ∨ j = 30 ∨ j = 31 ∨ j = 32 ∨ j = 33 ∨ j = 34 ∨ j = 35 ∨ j = 36 ∨ j = 37 ∨ j = 38 ∨ j = 39 ∨ j = 40 ∨ j = 41 ∨ j = 42 ∨ j = 43 by omega) with rfl | rfl | rfl | rfl | rfl | rfl | rfl | rfl | rfl | rfl | rfl | rfl | rfl | rfl | rfl | rfl | rfl | rfl | rfl | rfl | rfl | rfl | rfl | rfl | rfl | rfl | rfl | rfl | rfl | rfl | rfl | rfl | rfl | rfl | rfl | rfl | rfl | rfl | rfl | rfl | rfl | rfl | rfl | rfl <;> rfl) (by decide) (by decide) d_law_8 (fun H hP hS => ?_)
  have hP : gm_P D cls A (N + 85) (gm_up M_2 (N + 84) (.inr (9, [.null, .int 0, .int 0, .null, .null, .null, .null, .null, .int 0, .null, .null, .int 0, .null, .int 0, .null, .null, .null, .null, .int 0, .null, .null, .null, .null, .null, .null, .null, .null, .null, .null, .int 0, .null, .null, .int 0, .null, .null, .int 0, .int 0, .int 0, .int 0, .int 0, .int 0, .int 0, .int 0, .int 0]))) H := hP
  have h_51 := gm_pass (k := (N + 84)) (y := .inr (9, [.null, .int 0, .int 0, .null, .null, .null, .null, .null, .int 0, .null, .null, .int 0, .null, .int 0, .null, .null, .null, .null, .int 0, .null, .null, .null, .null, .null, .null, .null, .null, .null, .null, .int 0, .null, .null, .int 0, .null, .null, .int 0, .int 0, .int 0, .int 0, .int 0, .int 0, .int 0, .int 0, .int 0])) h_4 (by omega)
  have h_52 := gm_pass (k := (N + 84)) (y := .inr (9, [.null, .int 0, .int 0, .null, .null, .null, .null, .null, .int 0, .null, .null, .int 0, .null, .int 0, .null, .null, .null, .null, .int 0, .null, .null, .null, .null, .null, .null, .null, .null, .null, .null, .int 0, .null, .null, .int 0, .null, .null, .int 0, .int 0, .int 0, .int 0, .int 0, .int 0, .int 0, .int 0, .int 0])) h_5 (by omega)
  have h_53 := gm_pass (k := (N + 84)) (y := .inr (9, [.null, .int 0, .int 0, .null, .null, .null, .null, .null, .int 0, .null, .null, .int 0, .null, .int 0, .null, .null, .null, .null, .int 0, .null, .null, .null, .null, .null, .null, .null, .null, .null, .null, .int 0, .null, .null, .int 0, .null, .null, .int 0, .int 0, .int 0, .int 0, .int 0, .int 0, .int 0, .int 0, .int 0])) h_6 (by omega)
  have h_54 := gm_pass (k := (N + 84)) (y := .inr (9, [.null, .int 0, .int 0, .null, .null, .null, .null, .null, .int 0, .null, .null, .int 0, .null, .int 0, .null, .null, .null, .null, .int 0, .null, .null, .null, .null, .null, .null, .null, .null, .null, .null, .int 0, .null, .null, .int 0, .null, .null, .int 0, .int 0, .int 0, .int 0, .int 0, .int 0, .int 0, .int 0, .int 0])) h_7 (by omega)
  have h_55 := gm_pass (k := (N + 84)) (y := .inr (9, [.null, .int 0, .int 0, .null, .null, .null, .null, .null, .int 0, .null, .null, .int 0, .null, .int 0, .null, .null, .null, .null, .int 0, .null, .null, .null, .null, .null, .null, .null, .null, .null, .null, .int 0, .null, .null, .int 0, .null, .null, .int 0, .int 0, .int 0, .int 0, .int 0, .int 0, .int 0, .int 0, .int 0])) h_8 (by omega)
  have h_56 := gm_pass (k := (N + 84)) (y := .inr (9, [.null, .int 0, .int 0, .null, .null, .null, .null, .null, .int 0, .null, .null, .int 0, .null, .int 0, .null, .null, .null, .null, .int 0, .null, .null, .null, .null, .null, .null, .null, .null, .null, .null, .int 0, .null, .null, .int 0, .null, .null, .int 0, .int 0, .int 0, .int 0, .int 0, .int 0, .int 0, .int 0, .int 0])) h_9 (by omega)
  have h_57 := gm_pass (k := (N + 84)) (y := .inr (9, [.null, .int 0, .int 0, .null, .null, .null, .null, .null, .int 0, .null, .null, .int 0, .null, .int 0, .null, .null, .null, .null, .int 0, .null, .null, .null, .null, .null, .null, .null, .null, .null, .null, .int 0, .null, .null, .int 0, .null, .null, .int 0, .int 0, .int 0, .int 0, .int 0, .int 0, .int 0, .int 0, .int 0])) h_10 (by omega)
  have h_58 := gm_pass (k := (N + 84)) (y := .inr (9, [.null, .int 0, .int 0, .null, .null, .null, .null, .null, .int 0, .null, .null, .int 0, .null, .int 0, .null, .null, .null, .null, .int 0, .null, .null, .null, .null, .null, .null, .null, .null, .null, .null, .int 0, .null, .null, .int 0, .null, .null, .int 0, .int 0, .int 0, .int 0, .int 0, .int 0, .int 0, .int 0, .int 0])) h_11 (by omega)
  have h_59 := gm_pass (k := (N + 84)) (y := .inr (9, [.null, .int 0, .int 0, .null, .null, .null, .null, .null, .int 0, .null, .null, .int 0, .null, .int 0, .null, .null, .null, .null, .int 0, .null, .null, .null, .null, .null, .null, .null, .null, .null, .null, .int 0, .null, .null, .int 0, .null, .null, .int 0, .int 0, .int 0, .int 0, .int 0, .int 0, .int 0, .int 0, .int 0])) h_12 (by omega)
  have h_60 := gm_pass (k := (N + 84)) (y := .inr (9, [.null, .int 0, .int 0, .null, .null, .null, .null, .null, .int 0, .null, .null, .int 0, .null, .int 0, .null, .null, .null, .null, .int 0, .null, .null, .null, .null, .null, .null, .null, .null, .null, .null, .int 0, .null, .null, .int 0, .null, .null, .int 0, .int 0, .int 0, .int 0, .int 0, .int 0, .int 0, .int 0, .int 0])) h_13 (by omega)
  have h_61 := gm_pass (k := (N + 84)) (y := .inr (9, [.null, .int 0, .int 0, .null, .null, .null, .null, .null, .int 0, .null, .null, .int 0, .null, .int 0, .null, .null, .null, .null, .int 0, .null, .null, .null, .null, .null, .null, .null, .null, .null, .null, .int 0, .null, .null, .int 0, .null, .null, .int 0, .int 0, .int 0, .int 0, .int 0, .int 0, .int 0, .int 0, .int 0])) h_14 (by omega)
  have h_62 := gm_pass (k := (N + 84)) (y := .inr (9, [.null, .int 0, .int 0, .null, .null, .null, .null, .null, .int 0, .null, .null, .int 0, .null, .int 0, .null, .null, .null, .null, .int 0, .null, .null, .null, .null, .null, .null, .null, .null, .null, .null, .int 0, .null, .null, .int 0, .null, .null, .int 0, .int 0, .int 0, .int 0, .int 0, .int 0, .int 0, .int 0, .int 0])) h_15 (by omega)
  have h_63 := gm_pass (k := (N + 84)) (y := .inr (9, [.null, .int 0, .int 0, .null, .null, .null, .null, .null, .int 0, .null, .null, .int 0, .null, .int 0, .null, .null, .null, .null, .int 0, .null, .null, .null, .null, .null, .null, .null, .null, .null, .null, .int 0, .null, .null, .int 0, .null, .null, .int 0, .int 0, .int 0, .int 0, .int 0, .int 0, .int 0, .int 0, .int 0])) h_16 (by omega)
  have h_64 := gm_pass (k := (N + 84)) (y := .inr (9, [.null, .int 0, .int 0, .null, .null, .null, .null, .null, .int 0, .null, .null, .int 0, .null, .int 0, .null, .null, .null, .null, .int 0, .null, .null, .null, .null, .null, .null, .null, .null, .null, .null, .int 0, .null, .null, .int 0, .null, .null, .int 0, .int 0, .int 0, .int 0, .int 0, .int 0, .int 0, .int 0, .int 0])) h_17 (by omega)
  have h_65 := gm_pass (k := (N + 84)) (y := .inr (9, [.null, .int 0, .int 0, .null, .null, .null, .null, .null, .int 0, .null, .null, .int 0, .null, .int 0, .null, .null, .null, .null, .int 0, .null, .null, .null, .null, .null, .null, .null, .null, .null, .null, .int 0, .null, .null, .int 0, .null, .null, .int 0, .int 0, .int 0, .int 0, .int 0, .int 0, .int 0, .int 0, .int 0])) h_18 (by omega)
  have h_66 := gm_pass (k := (N + 84)) (y := .inr (9, [.null, .int 0, .int 0, .null, .null, .null, .null, .null, .int 0, .null, .null, .int 0, .null, .int 0, .null, .null, .null, .null, .int 0, .null, .null, .null, .null, .null, .null, .null, .null, .null, .null, .int 0, .null, .null, .int 0, .null, .null, .int 0, .int 0, .int 0, .int 0, .int 0, .int 0, .int 0, .int 0, .int 0])) h_19 (by omega)
  have h_67 := gm_pass (k := (N + 84)) (y := .inr (9, [.null, .int 0, .int 0, .null, .null, .null, .null, .null, .int 0, .null, .null, .int 0, .null, .int 0, .null, .null, .null, .null, .int 0, .null, .null, .null, .null, .null, .null, .null, .null, .null, .null, .int 0, .null, .null, .int 0, .null, .null, .int 0, .int 0, .int 0, .int 0, .int 0, .int 0, .int 0, .int 0, .int 0])) h_20 (by omega)
  have hf_68 : ∀ fi, fi < 17 → (gm_up M_2 (N + 84) (.inr (9, [.null, .int 0, .int 0, .null, .null, .null, .null, .null, .int 0, .null, .null, .int 0, .null, .int 0, .null, .null, .null, .null, .int 0, .null, .null, .null, .null, .null, .null, .null, .null, .null, .null, .int 0, .null, .null, .int 0, .null, .null, .int 0, .int 0, .int 0, .int 0, .int 0, .int 0, .int 0, .int 0, .int 0]))) (seq3 (N + 6) fi) = some (.inr (5, [.int (nI 1), .int (nI 2), .int (nI 3), .ref (seq3 (N + 6) fi + 1), .ref (seq3 (N + 6) fi + 2)])) := fun fi hfi => gm_pass (k := (N + 84)) (y := .inr (9, [.null, .int 0, .int 0, .null, .null, .null, .null, .null, .int 0, .null, .null, .int 0, .null, .int 0, .null, .null, .null, .null, .int 0, .null, .null, .null, .null, .null, .null, .null, .null, .null, .null, .int 0, .null, .null, .int 0, .null, .null, .int 0, .int 0, .int 0, .int 0, .int 0, .int 0, .int 0, .int 0, .int 0])) (hq_26 fi hfi) (by have := ltf_47 fi hfi; omega)
  have hf_69 : ∀ fi, fi < 17 → (gm_up M_2 (N + 84) (.inr (9, [.null, .int 0, .int 0, .null, .null, .null, .null, .null, .int 0, .null, .null, .int 0, .null, .int 0, .null, .null, .null, .null, .int 0, .null, .null, .null, .null, .null, .null, .null, .null, .null, .null, .int 0, .null, .null, .int 0, .null, .null, .int 0, .int 0, .int 0, .int 0, .int 0, .int 0, .int 0, .int 0, .int 0]))) (seq3 (N + 6) fi + 1) = some (.inl (ca 0, 3, .inl (iN (fun _ => 0)))) := fun fi hfi => gm_pass (k := (N + 84)) (y := .inr (9, [.null, .int 0, .int 0, .null, .null, .null, .null, .null, .int 0, .null, .null, .int 0, .null, .int 0, .null, .null, .null, .null, .int 0, .null, .null, .null, .null, .null, .null, .null, .null, .null, .null, .int 0, .null, .null, .int 0, .null, .null, .int 0, .int 0, .int 0, .int 0, .int 0, .int 0, .int 0, .int 0, .int 0])) (hq_27 fi hfi) (by have := ltf_48 fi hfi; omega)
  have hf_70 : ∀ fi, fi < 17 → (gm_up M_2 (N + 84) (.inr (9, [.null, .int 0, .int 0, .null, .null, .null, .null, .null, .int 0, .null, .null, .int 0, .null, .int 0, .null, .null, .null, .null, .int 0, .null, .null, .null, .null, .null, .null, .null, .null, .null, .null, .int 0, .null, .null, .int 0, .null, .null, .int 0, .int 0, .int 0, .int 0, .int 0, .int 0, .int 0, .int 0, .int 0]))) (seq3 (N + 6) fi + 2) = some (.inl (ca 0, 3, .inl (iN (fun _ => 0)))) := fun fi hfi => gm_pass (k := (N + 84)) (y := .inr (9, [.null, .int 0, .int 0, .null, .null, .null, .null, .null, .int 0, .null, .null, .int 0, .null, .int 0, .null, .null, .null, .null, .int 0, .null, .null, .null, .null, .null, .null, .null, .null, .null, .null, .int 0, .null, .null, .int 0, .null, .null, .int 0, .int 0, .int 0, .int 0, .int 0, .int 0, .int 0, .int 0, .int 0])) (hq_28 fi hfi) (by have := ltf_49 fi hfi; omega)
  have hf_71 : ∀ fi, fi < 16 → (gm_up M_2 (N + 84) (.inr (9, [.null, .int 0, .int 0, .null, .null, .null, .null, .null, .int 0, .null, .null, .int 0, .null, .int 0, .null, .null, .null, .null, .int 0, .null, .null, .null, .null, .null, .null, .null, .null, .null, .null, .int 0, .null, .null, .int 0, .null, .null, .int 0, .int 0, .int 0, .int 0, .int 0, .int 0, .int 0, .int 0, .int 0]))) (seq1 (N + 65) fi) = some (.inr (2, [.int 0, .int 0, .int 0, .int 0, .int (nI 0), .int 0, .int 0, .int 0])) := fun fi hfi => gm_pass (k := (N + 84)) (y := .inr (9, [.null, .int 0, .int 0, .null, .null, .null, .null, .null, .int 0, .null, .null, .int 0, .null, .int 0, .null, .null, .null, .null, .int 0, .null, .null, .null, .null, .null, .null, .null, .null, .null, .null, .int 0, .null, .null, .int 0, .null, .null, .int 0, .int 0, .int 0, .int 0, .int 0, .int 0, .int 0, .int 0, .int 0])) (hq_29 fi hfi) (by have := ltf_50 fi hfi; omega)
  have h_72 := gm_up_self M_2 (N + 84) (.inr (9, [.null, .int 0, .int 0, .null, .null, .null, .null, .null, .int 0, .null, .null, .int 0, .null, .int 0, .null, .null, .null, .null, .int 0, .null, .null, .null, .null, .null, .null, .null, .null, .null, .null, .int 0, .null, .null, .int 0, .null, .null, .int 0, .int 0, .int 0, .int 0, .int 0, .int 0, .int 0, .int 0, .int 0]))
  refine W.widen (k := 85) (n := 1059) (by decide) (by decide) ?_
  refine lv_dup hx hb d_law_11 rfl ?_
  have lt_74 := hP.lt h_51
  have lt_75 := hP.lt h_52
  have lt_76 := hP.lt h_53
  have lt_77 := hP.lt h_54
  have lt_78 := hP.lt h_55
  have lt_79 := hP.lt h_56
  have lt_80 := hP.lt h_57
  have lt_81 := hP.lt h_58
  have lt_82 := hP.lt h_59
  have lt_83 := hP.lt h_60
  have lt_84 := hP.lt h_61
  have lt_85 := hP.lt h_62
  have lt_86 := hP.lt h_63
  have lt_87 := hP.lt h_64
  have lt_88 := hP.lt h_65
  have lt_89 := hP.lt h_66
  have lt_90 := hP.lt h_67
  have lt_91 := hP.lt h_72
  have ltf_92 : ∀ fi, fi < 17 → seq3 (N + 6) fi < N + 85 := fun fi hfi => hP.lt (hf_68 fi hfi)
  have ltf_93 : ∀ fi, fi < 17 → seq3 (N + 6) fi + 1 < N + 85 := fun fi hfi => hP.lt (hf_69 fi hfi)
  have ltf_94 : ∀ fi, fi < 17 → seq3 (N + 6) fi + 2 < N + 85 := fun fi hfi => hP.lt (hf_70 fi hfi)
  have ltf_95 : ∀ fi, fi < 16 → seq1 (N + 65) fi < N + 85 := fun fi hfi => hP.lt (hf_71 fi hfi)
  refine gc_I (n := 0) [] [.ref (N + 84)] hx hb hml hown hts hK (fun q hq => hN q (by omega)) hX hP hS (c_Mo_init h_72) k_739 k_740 k_10 k_741 rfl (by decide +kernel) ⟨by decide, by decide⟩ rfl hl.1 rfl (Nat.le_of_ble_eq_true rfl) d_law_12 ⟨by decide, by decide⟩ (fun r N1 M_73 H locs hw hP hS => ?_)
  obtain ⟨rfl, hw⟩ := hw
  obtain ⟨h_96, hfm_97, hfr_98⟩ := hw
  have h_99 := (hfr_98 _ (gm_ne h_51 h_72 (fun h => by cases h)) (by omega)).trans h_51
  have h_100 := (hfr_98 _ (gm_ne h_52 h_72 (fun h => by cases h)) (by omega)).trans h_52
  have h_101 := (hfr_98 _ (gm_ne h_53 h_72 (fun h => by cases h)) (by omega)).trans h_53
  have h_102 := (hfr_98 _ (gm_ne h_54 h_72 (fun h => by cases h)) (by omega)).trans h_54
  have h_103 := (hfr_98 _ (gm_ne h_55 h_72 (fun h => by cases h)) (by omega)).trans h_55
  have h_104 := (hfr_98 _ (gm_ne h_56 h_72 (fun h => by cases h)) (by omega)).trans h_56
  have h_105 := (hfr_98 _ (gm_ne h_57 h_72 (fun h => by cases h)) (by omega)).trans h_57
  have h_106 := (hfr_98 _ (gm_ne h_58 h_72 (fun h => by cases h)) (by omega)).trans h_58
  have h_107 := (hfr_98 _ (gm_ne h_59 h_72 (fun h => by cases h)) (by omega)).trans h_59
  have h_108 := (hfr_98 _ (gm_ne h_60 h_72 (fun h => by cases h)) (by omega)).trans h_60
  have h_109 := (hfr_98 _ (gm_ne h_61 h_72 (fun h => by cases h)) (by omega)).trans h_61
  have h_110 := (hfr_98 _ (gm_ne h_62 h_72 (fun h => by cases h)) (by omega)).trans h_62
  have h_111 := (hfr_98 _ (gm_ne h_63 h_72 (fun h => by cases h)) (by omega)).trans h_63
  have h_112 := (hfr_98 _ (gm_ne h_64 h_72 (fun h => by cases h)) (by omega)).trans h_64
  have h_113 := (hfr_98 _ (gm_ne h_65 h_72 (fun h => by cases h)) (by omega)).trans h_65
  have h_114 := (hfr_98 _ (gm_ne h_66 h_72 (fun h => by cases h)) (by omega)).trans h_66
  have h_115 := (hfr_98 _ (gm_ne h_67 h_72 (fun h => by cases h)) (by omega)).trans h_67
  have hf_116 : ∀ fi, fi < 17 → M_73 (seq3 (N + 6) fi) = some (.inr (5, [.int (nI 1), .int (nI 2), .int (nI 3), .ref (seq3 (N + 6) fi + 1), .ref (seq3 (N + 6) fi + 2)])) := fun fi hfi => (hfr_98 _ (gm_ne (hf_68 fi hfi) h_72 (fun h => by cases h)) (by have := ltf_92 fi hfi; omega)).trans (hf_68 fi hfi)
  have hf_117 : ∀ fi, fi < 17 → M_73 (seq3 (N + 6) fi + 1) = some (.inl (ca 0, 3, .inl (iN (fun _ => 0)))) := fun fi hfi => (hfr_98 _ (gm_ne (hf_69 fi hfi) h_72 (fun h => by cases h)) (by have := ltf_93 fi hfi; omega)).trans (hf_69 fi hfi)
  have hf_118 : ∀ fi, fi < 17 → M_73 (seq3 (N + 6) fi + 2) = some (.inl (ca 0, 3, .inl (iN (fun _ => 0)))) := fun fi hfi => (hfr_98 _ (gm_ne (hf_70 fi hfi) h_72 (fun h => by cases h)) (by have := ltf_94 fi hfi; omega)).trans (hf_70 fi hfi)
  have hf_119 : ∀ fi, fi < 16 → M_73 (seq1 (N + 65) fi) = some (.inr (2, [.int 0, .int 0, .int 0, .int 0, .int (nI 0), .int 0, .int 0, .int 0])) := fun fi hfi => (hfr_98 _ (gm_ne (hf_71 fi hfi) h_72 (fun h => by cases h)) (by have := ltf_95 fi hfi; omega)).trans (hf_71 fi hfi)
  refine W.eq (g2 := F0 m 15 ls [.ref (N + 84)]) rfl ?_
  refine W.widen (k := 112) (n := 2520) (by decide) (by decide) ?_
  refine lv_astore_n (lv' := [(2, .ref (N + 84)), (1, .ref N), (0, .ref b)]) hx hb d_law_15 rfl hl (by decide) rfl (fun ls hl => ?_)
  refine lv_iconst (v := nI 0) hx hb d_law_16 (by decide) ?_
  refine lv_istore_n (lv' := [(3, .int (nI 0)), (2, .ref (N + 84)), (1, .ref N), (0, .ref b)]) hx hb d_law_17 rfl hl (by decide) rfl (fun ls hl => ?_)
  exact kk _ _ _ ls (fun Z k0 => k0 (N + 82) (N + 83) 0 0 0 0 0 (-1) ([] : List Nat) (fun _ => 0) 0 0 (seq3 (N + 6)) (fun _ _ => 0) (fun _ _ => 0) (fun _ _ => 0) ([] : List Nat) (fun _ => 0) 0 (fun _ => 0) (fun _ => 0) (fun _ => 0) 0 (seq1 (N + 65)) (fun _ _ => 0) (fun _ => 0) 1 0 0 0 (nI 0) 0 0 0 (nI 0) (nI 0) 0 0 0 0 0 0 (fun _ => 0) (fun _ => 0) (fun _ => 0) (fun _ => 0) (fun _ => 0) (fun _ => 0) (fun _ => 0) (fun _ => 0) (fun _ => 0) (fun _ _ => 0) (fun _ _ => 0) (fun _ => 0) (fun _ => 0) (fun _ => 0) h_99 h_100 h_101 h_102 h_103 h_104 h_105 h_106 h_107 h_108 h_109 h_110 h_111 h_112 h_113 h_114 h_115 h_96 (hfm_97 0 (by decide)) (hfm_97 1 (by decide)) (hfm_97 2 (by decide)) (hfm_97 3 (by decide)) (hfm_97 4 (by decide)) (hfm_97 5 (by decide)) (hfm_97 6 (by decide)) (hfm_97 7 (by decide)) (hfm_97 8 (by decide)) (hfm_97 23 (by decide)) (hfm_97 24 (by decide)) (hfm_97 25 (by decide)) (hfm_97 26 (by decide)) (hfm_97 9 (by decide)) (hfm_97 10 (by decide)) (hfm_97 11 (by decide)) (hfm_97 12 (by decide)) (hfm_97 13 (by decide)) (hfm_97 14 (by decide)) (hfm_97 15 (by decide)) (hfm_97 16 (by decide)) (hfm_97 17 (by decide)) (hfm_97 18 (by decide)) (hfm_97 19 (by decide)) (hfm_97 20 (by decide)) (hfm_97 21 (by decide)) (hfm_97 22 (by decide)) (fun i hi => absurd hi (Nat.not_lt_zero _)) hf_117 hf_118 (fun fi hfi => ⟨_, _, _, hf_116 fi hfi⟩) hf_119 (Nat.zero_le _) (fun i hi => absurd hi (Nat.not_lt_zero _)) (fun c hc => absurd hc (List.not_mem_nil)) (by decide) (fun _ => (show (0 : Nat) < 65536 by decide)) (fun _ => (show (0 : Nat) < 65536 by decide)) (fun _ => (show (0 : Nat) < 65536 by decide)) (by decide) (okR_seq _) ⟨fun i hi => absurd hi (Nat.not_lt_zero _), fun _ _ => ⟨Nat.zero_le _, Nat.zero_le _⟩⟩ (by decide) (okA_seq _) (fun _ => ⟨fun _ => (show (0 : Nat) < 1000000 by decide), Nat.zero_le _, (show (0 : Nat) < 65536 by decide), (show (0 : Nat) < 65536 by decide), Nat.zero_le _, Nat.zero_le _, Nat.zero_le _⟩) (by decide) (by decide) (Nat.zero_le _) (Nat.zero_le _) (Nat.zero_le _) (Nat.zero_le _) ⟨by decide, by decide⟩ (Or.inl ⟨rfl, rfl⟩) (Nat.zero_le _) (Nat.zero_le _) (Nat.zero_le _) rfl ⟨Nat.zero_le _, fun _ => rfl⟩ (fun i hi => absurd hi (Nat.not_lt_zero _)) (fun i hi => absurd hi (Nat.not_lt_zero _)) (fun i hi => absurd hi (Nat.not_lt_zero _)) (fun i hi => absurd hi (Nat.not_lt_zero _)) ⟨rfl, rfl, rfl, rfl⟩ ⟨fun i j hi => absurd hi (Nat.not_lt_zero _), fun i j hi => absurd hi (Nat.not_lt_zero _), fun i j hi => absurd hi (Nat.not_lt_zero _)⟩ (fun i hi => absurd hi (Nat.not_lt_zero _)) (fun i hi => absurd hi (Nat.not_lt_zero _)) (fun i hi => absurd hi (Nat.not_lt_zero _)) (win_new (fun i hi => absurd hi (Nat.not_lt_zero _))) (win_new (fun i hi => absurd hi (Nat.not_lt_zero _))) rfl rfl (by decide)) hP hS (lv_sub hl [3, 2, 1, 0] rfl)
end C50
