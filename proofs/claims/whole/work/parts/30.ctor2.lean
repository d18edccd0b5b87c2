section C30
variable {l : Launch} {D : va_G} {ca : Nat → ClassId} {A : Nat → Prop} {G : gG} {N : Nat} {M : gm_M}

def seq1 (a : Nat) : Nat → Nat := fun i => a + i
def seq3 (a : Nat) : Nat → Nat := fun i => a + 3 * i
theorem gm_conv {D : va_G} {cl : List vw_C} {A : Nat → Prop} {N : Nat} {M : gm_M} {H : Heap} {x n : Nat} {cA : ClassId} {f f2 : Nat → Option Nat} (h : gm_P D cl A N M H) (hx : M x = some (.inl (cA, n, .inr (.inr (.inr (.inr f)))))) (hf : ∀ j, j < n → f j = f2 j) : gm_P D cl A N (gm_up M x (.inl (cA, n, .inr (.inr (.inr (.inr f2)))))) H := by
  refine ⟨h.1, fun k y hy => ?_⟩
  by_cases q : k = x
  · subst q
    rw [gm_up_self] at hy
    cases hy
    refine ⟨?_, (h.2 k _ hx).2⟩
    have h1 : H[k]? = some (vp_cell cA (n, .inr (.inr (.inr (.inr f))))) := (h.2 k _ hx).1
    show H[k]? = some (vp_cell cA (n, .inr (.inr (.inr (.inr f2)))))
    rw [h1, vp_cell_q, vp_cell_q]
    unfold arrV
    congr 3
    funext j
    show va_rf (f j.val) = va_rf (f2 j.val)
    rw [hf j.val j.isLt]
  · rw [gm_up_ne _ _ q] at hy; exact h.2 k y hy
set_option maxHeartbeats 4000000 in
set_option maxRecDepth 100000 in
theorem c_Ft_init {x : Nat} (e1 : M x = some (.inr (3, [.null, .int 0]))) : gC l D ca A G y_Ft_init (.code y_Ft_init b_Ft_init 2 none) ({ frames := 2, cells := 17, slots := 144, locals := 40 }) N M [.ref x] gm_v (fun (_ : Unit) (N1 : Nat) (M1 : gm_M) => (N + 17) = N1 ∧ M1 x = some (.inr (3, [.ref N, .int (nI 0)])) ∧ M1 N = some (.inl (ca 3, 16, .inr (.inr (.inr (.inr (oF (seq1 (N + 1)))))))) ∧ (∀ fi, fi < 16 → M1 (seq1 (N + 1) fi) = some (.inr (2, [.int 0, .int 0, .int 0, .int 0, .int (nI 0), .int 0, .int 0, .int 0]))) ∧ (∀ z, z ≠ x → z ≠ N → z < N → M1 z = M z)) := by
  refine gm_body (by decide) (Nat.le_of_ble_eq_true rfl) (fun p e s m below meth c ls hx hb hr hts hown hlk hml hnm hP hK hN hX hS hl => ?_)
  have htl : ∀ w ∈ LW, w.before _ s = true := fun w h => hts w (List.mem_cons_of_mem _ h)
  have hown : s.vm.findClass "PacketGate$FlowTable" = some m.cls := hown
  have hl : lv_has ls 2 [(0, .ref x)] := hl
  have hA0 : ∀ q : Nat, s.heap.size ≤ q → A q := fun q h => hN q (by rw [← hP.1]; exact h)
  generalize hQ : MQ below _ _ s _ _ A = Q
  refine lv_aload_n hx hb d_Ft_init_0 rfl (lv_at hl 0 rfl) ?_
  refine W.objInit hx hb hown (htl _ k_119) (htl _ k_23) (htl _ k_24) rfl (by rw [hml]; exact hl.1) rfl d_Ft_init_1 (Nat.le_of_ble_eq_true rfl) (Nat.le_of_ble_eq_true rfl) ?_
  refine W.eq (g2 := F0 m 4 ls []) rfl ?_
  refine lv_aload_n hx hb d_Ft_init_4 rfl (lv_at hl 0 rfl) ?_
  refine lv_bipush (v := nI 16) hx hb d_Ft_init_5 (by decide) ?_
  have lt_1 := hP.lt e1
  refine gm_newq hx hb hown (htl _ k_120) hX.2.1.2 3 hK rfl hP hS hA0 (by decide) (show (nI 16).toNatClampNeg = 16 by decide) (by decide) (by decide) (by decide) d_Ft_init_7 (fun H hP hS => ?_)
  have hP : gm_P D cls A (N + 1) (gm_up M N (.inl (ca 3, 16, .inr (.inr (.inr (.inr (fun _ => none))))))) H := hP
  have h_2 := gm_pass (k := N) (y := .inl (ca 3, 16, .inr (.inr (.inr (.inr (fun _ => none)))))) e1 (by omega)
  have h_3 := gm_up_self M N (.inl (ca 3, 16, .inr (.inr (.inr (.inr (fun _ => none))))))
  refine W.widen (k := 1) (n := 16) (by decide) (by decide) ?_
  refine gm_putF (C := R_Ft) (T := F_Ft) (n := 2) (ty := .array (.object "PacketGate$Flow")) hx hb htl i_Ft t_Ft tk_Ft n_Ft hown hK hP hS h_2 rfl 0 (by decide) (htl _ k_158) (fun _ h => h) rfl hnm rfl (tk_Ft 0 (by decide)) rfl rfl (Nat.le_of_ble_eq_true rfl) d_Ft_init_10 (fun H locs hP hS => ?_)
  have hP : gm_P D cls A (N + 1) (gm_up (gm_up M N (.inl (ca 3, 16, .inr (.inr (.inr (.inr (fun _ => none))))))) x (.inr (3, [.ref N, .int 0]))) H := hP
  have h_4 := gm_pass (k := x) (y := .inr (3, [.ref N, .int 0])) h_3 (gm_ne h_3 h_2 (fun h => by cases h))
  have h_5 := gm_up_self (gm_up M N (.inl (ca 3, 16, .inr (.inr (.inr (.inr (fun _ => none))))))) x (.inr (3, [.ref N, .int 0]))
  refine lv_iconst (v := nI 0) hx hb d_Ft_init_13 (by decide) ?_
  refine lv_istore_n (lv' := [(1, .int (nI 0)), (0, .ref x)]) hx hb d_Ft_init_14 rfl hl (by decide) rfl (fun ls hl => ?_)
  have loop_15 : ∀ (fu : Nat) (i : Nat) (fq : Nat → Option Nat) (Mv : gm_M) (ls : Array Slot) (H : Heap) (locs : List Loc), (Mv x = some (.inr (3, [.ref N, .int 0]))) → (Mv N = some (.inl (ca 3, 16, .inr (.inr (.inr (.inr fq)))))) → (∀ fi, fi < i → Mv (seq1 (N + 1) fi) = some (.inr (2, [.int 0, .int 0, .int 0, .int 0, .int (nI 0), .int 0, .int 0, .int 0]))) → (∀ j, j < i → fq j = some (N + 1 + j)) → (i ≤ 16) → (∀ z, z ≠ x → z < N → Mv z = M z) → (16 - i) < fu → gm_P D cls A (N + 1 + i) Mv H → va_S A s.heap H locs → lv_has ls 2 [(0, .ref x), (1, .int (nI i))] → W p l e ({ frames := 2, cells := 17, slots := 144, locals := 40 }) s m ([.ref x] : List Value).toArray below meth c H locs (1 + i) (16 + 8 * i) Q (F0 m 15 ls []) := by
    intro fu
    induction fu with
    | zero => intro i fq Mv ls H locs e1v e2v hfz hfq hi hfrv hk; exact absurd hk (Nat.not_lt_zero _)
    | succ fu ih_15 =>
      intro i fq Mv ls H locs e1v e2v hfz hfq hi hfrv hk hP hS hl
      refine lv_iload_n hx hb d_Ft_init_15 rfl (lv_at hl 1 rfl) ?_
      refine lv_aload_n hx hb d_Ft_init_16 rfl (lv_at hl 0 rfl) ?_
      refine gm_get (C := R_Ft) (T := F_Ft) (n := 2) hx hb htl i_Ft hown hK hP e1v rfl 0 (by decide) (htl _ k_158) (fun _ h => h) rfl d_Ft_init_17 ?_
      refine gm_alen (v := nI 16) hx hb hK hP 3 e2v rfl rfl d_Ft_init_20 ?_
      refine ln_ge (tgt := 43) hx hb d_Ft_init_21 (by decide) (by omega) (by omega) (fun c_6 => ?_) (fun c_6 => ?_)
      · skip
        have hi16 : i = 16 := by omega
        have hP := gm_conv (f2 := oF (seq1 (N + 1))) hP e2v (fun j hj => hfq j (by omega))
        have hx1 := hP.1
        have hP : gm_P D cls A (N + 1 + i) (gm_up Mv N (.inl (ca 3, 16, .inr (.inr (.inr (.inr (oF (seq1 (N + 1))))))))) H := hP
        have h_7 := gm_pass (k := N) (y := .inl (ca 3, 16, .inr (.inr (.inr (.inr (oF (seq1 (N + 1)))))))) e1v (gm_ne e1v e2v (fun h => by cases h))
        have h_8 := gm_up_self Mv N (.inl (ca 3, 16, .inr (.inr (.inr (.inr (oF (seq1 (N + 1))))))))
        have hf_9 : ∀ fi, fi < i → (gm_up Mv N (.inl (ca 3, 16, .inr (.inr (.inr (.inr (oF (seq1 (N + 1))))))))) (seq1 (N + 1) fi) = some (.inr (2, [.int 0, .int 0, .int 0, .int 0, .int (nI 0), .int 0, .int 0, .int 0])) := fun fi hfi => gm_pass (k := N) (y := .inl (ca 3, 16, .inr (.inr (.inr (.inr (oF (seq1 (N + 1)))))))) (hfz fi hfi) (gm_ne (hfz fi hfi) e2v (fun h => by cases h))
        refine lv_aload_n hx hb d_Ft_init_43 rfl (lv_at hl 0 rfl) ?_
        refine lv_iconst (v := nI 0) hx hb d_Ft_init_44 (by decide) ?_
        refine gm_put (C := R_Ft) (T := F_Ft) (n := 2) (ty := .int) hx hb htl i_Ft t_Ft tk_Ft n_Ft hown hK hP hS h_7 rfl 1 (by decide) (htl _ k_159) (fun _ h => h) rfl (tk_Ft 1 (by decide)) rfl rfl (Nat.le_of_ble_eq_true rfl) d_Ft_init_45 (fun H locs hP hS => ?_)
        have hP : gm_P D cls A (N + 1 + i) (gm_up (gm_up Mv N (.inl (ca 3, 16, .inr (.inr (.inr (.inr (oF (seq1 (N + 1))))))))) x (.inr (3, [.ref N, .int (nI 0)]))) H := hP
        have h_10 := gm_pass (k := x) (y := .inr (3, [.ref N, .int (nI 0)])) h_8 (gm_ne h_8 h_7 (fun h => by cases h))
        have h_11 := gm_up_self (gm_up Mv N (.inl (ca 3, 16, .inr (.inr (.inr (.inr (oF (seq1 (N + 1))))))))) x (.inr (3, [.ref N, .int (nI 0)]))
        have hf_12 : ∀ fi, fi < i → (gm_up (gm_up Mv N (.inl (ca 3, 16, .inr (.inr (.inr (.inr (oF (seq1 (N + 1))))))))) x (.inr (3, [.ref N, .int (nI 0)]))) (seq1 (N + 1) fi) = some (.inr (2, [.int 0, .int 0, .int 0, .int 0, .int (nI 0), .int 0, .int 0, .int 0])) := fun fi hfi => gm_pass (k := x) (y := .inr (3, [.ref N, .int (nI 0)])) (hf_9 fi hfi) (gm_ne (hf_9 fi hfi) h_7 (fun h => by cases h))
        refine W.widen (k := 17) (n := 144) (by omega) (by omega) ?_
        rw [← hQ]
        exact gc_vret hx hb hr hlk hP hS d_Ft_init_48 ⟨by omega, h_11, h_10, (fun fi hfi => hf_12 fi (by omega)), (fun z q0 q1 hz => (gm_up_ne _ _ q0).trans ((gm_up_ne _ _ q1).trans ((hfrv z q0 (by omega)).trans (rfl))))⟩
      · skip
        refine lv_aload_n hx hb d_Ft_init_24 rfl (lv_at hl 0 rfl) ?_
        refine gm_get (C := R_Ft) (T := F_Ft) (n := 2) hx hb htl i_Ft hown hK hP e1v rfl 0 (by decide) (htl _ k_158) (fun _ h => h) rfl d_Ft_init_25 ?_
        refine lv_iload_n hx hb d_Ft_init_28 rfl (lv_at hl 1 rfl) ?_
        have lt_13 := hP.lt e1v
        have lt_14 := hP.lt e2v
        have ltf_15 : ∀ fi, fi < i → seq1 (N + 1) fi < N + 1 + i := fun fi hfi => hP.lt (hfz fi hfi)
        refine gm_new (ci := 2) (fs := [.int 0, .int 0, .int 0, .int 0, .int 0, .int 0, .int 0, .int 0]) (C := R_Fl) (T := F_Fl) (n := 8) hx hb htl i_Fl t_Fl tk_Fl hown (htl _ k_120) (htl _ k_122) (htl _ k_8) hK hP hS hA0 rfl (fun j hj => by rcases (show j = 0 ∨ j = 1 ∨ j = 2 ∨ j = 3 ∨ j = 4 ∨ j = 5 ∨ j = 6 ∨ j = 7 by omega) with rfl | rfl | rfl | rfl | rfl | rfl | rfl | rfl <;> rfl) (show 1 + i + 1 ≤ 17 by omega) (show 16 + 8 * i + 8 ≤ 144 by omega) d_Ft_init_29 (fun H hP hS => ?_)
        have hP : gm_P D cls A (N + 1 + i + 1) (gm_up Mv (N + 1 + i) (.inr (2, [.int 0, .int 0, .int 0, .int 0, .int 0, .int 0, .int 0, .int 0]))) H := hP
        have h_16 := gm_pass (k := (N + 1 + i)) (y := .inr (2, [.int 0, .int 0, .int 0, .int 0, .int 0, .int 0, .int 0, .int 0])) e1v (by omega)
        have h_17 := gm_pass (k := (N + 1 + i)) (y := .inr (2, [.int 0, .int 0, .int 0, .int 0, .int 0, .int 0, .int 0, .int 0])) e2v (by omega)
        have hf_18 : ∀ fi, fi < i → (gm_up Mv (N + 1 + i) (.inr (2, [.int 0, .int 0, .int 0, .int 0, .int 0, .int 0, .int 0, .int 0]))) (seq1 (N + 1) fi) = some (.inr (2, [.int 0, .int 0, .int 0, .int 0, .int (nI 0), .int 0, .int 0, .int 0])) := fun fi hfi => gm_pass (k := (N + 1 + i)) (y := .inr (2, [.int 0, .int 0, .int 0, .int 0, .int 0, .int 0, .int 0, .int 0])) (hfz fi hfi) (by have := ltf_15 fi hfi; omega)
        have h_19 := gm_up_self Mv (N + 1 + i) (.inr (2, [.int 0, .int 0, .int 0, .int 0, .int 0, .int 0, .int 0, .int 0]))
        refine lv_dup hx hb d_Ft_init_32 rfl ?_
        refine gc_I (n := 0) [] [.ref (N + 1 + i), .int (nI i), .ref N] hx hb hml hown hts hK (fun q hq => hN q (by omega)) hX hP hS (c_Fl_init h_19) k_123 k_124 k_8 k_125 rfl (by decide +kernel) ⟨by decide, by decide⟩ rfl hl.1 rfl (Nat.le_of_ble_eq_true rfl) d_Ft_init_33 ⟨show 1 + i + 1 + 0 ≤ 17 by omega, show 16 + 8 * i + 8 + 0 ≤ 144 by omega⟩ (fun r N1 M_20 H locs hw hP hS => ?_)
        obtain ⟨rfl, hw⟩ := hw
        obtain rfl := hw
        have he_21 : gm_up (gm_up Mv (N + 1 + i) (.inr (2, [.int 0, .int 0, .int 0, .int 0, .int 0, .int 0, .int 0, .int 0]))) (N + 1 + i) (.inr (2, [.int 0, .int 0, .int 0, .int 0, .int (nI 0), .int 0, .int 0, .int 0])) = gm_up Mv (N + 1 + i) (.inr (2, [.int 0, .int 0, .int 0, .int 0, .int (nI 0), .int 0, .int 0, .int 0])) := gm_up_up _ _ _ _
        have hP := Eq.mp (congrArg (fun Z => gm_P D cls A (N + 1 + i + 1) Z H) he_21) hP
        have h_22 := (congrFun he_21 _).symm.trans (gm_pass (k := (N + 1 + i)) (y := .inr (2, [.int 0, .int 0, .int 0, .int 0, .int (nI 0), .int 0, .int 0, .int 0])) h_16 (gm_ne h_16 h_19 (fun h => by cases h)))
        have h_23 := (congrFun he_21 _).symm.trans (gm_pass (k := (N + 1 + i)) (y := .inr (2, [.int 0, .int 0, .int 0, .int 0, .int (nI 0), .int 0, .int 0, .int 0])) h_17 (gm_ne h_17 h_19 (fun h => by cases h)))
        have h_24 := (congrFun he_21 _).symm.trans (gm_up_self (gm_up Mv (N + 1 + i) (.inr (2, [.int 0, .int 0, .int 0, .int 0, .int 0, .int 0, .int 0, .int 0]))) (N + 1 + i) (.inr (2, [.int 0, .int 0, .int 0, .int 0, .int (nI 0), .int 0, .int 0, .int 0])))
        have hf_25 : ∀ fi, fi < i → (gm_up Mv (N + 1 + i) (.inr (2, [.int 0, .int 0, .int 0, .int 0, .int (nI 0), .int 0, .int 0, .int 0]))) (seq1 (N + 1) fi) = some (.inr (2, [.int 0, .int 0, .int 0, .int 0, .int (nI 0), .int 0, .int 0, .int 0])) := fun fi hfi => (congrFun he_21 _).symm.trans (gm_pass (k := (N + 1 + i)) (y := .inr (2, [.int 0, .int 0, .int 0, .int 0, .int (nI 0), .int 0, .int 0, .int 0])) (hf_18 fi hfi) (by unfold seq1; omega))
        refine W.eq (g2 := F0 m 36 ls [.ref (N + 1 + i), .int (nI i), .ref N]) rfl ?_
        refine gn_aast hx hb hK hP hS 3 2 h_23 rfl h_24 rfl (by omega) (by omega) d_Ft_init_36 (fun H locs hP hS => ?_)
        have hP : gm_P D cls A (N + 1 + i + 1) (gm_up (gm_up Mv (N + 1 + i) (.inr (2, [.int 0, .int 0, .int 0, .int 0, .int (nI 0), .int 0, .int 0, .int 0]))) N (.inl (ca 3, 16, .inr (.inr (.inr (.inr (va_up fq i (some (N + 1 + i))))))))) H := hP
        have h_26 := gm_pass (k := N) (y := .inl (ca 3, 16, .inr (.inr (.inr (.inr (va_up fq i (some (N + 1 + i)))))))) h_22 (gm_ne h_22 h_23 (fun h => by cases h))
        have h_27 := gm_pass (k := N) (y := .inl (ca 3, 16, .inr (.inr (.inr (.inr (va_up fq i (some (N + 1 + i)))))))) h_24 (gm_ne h_24 h_23 (fun h => by cases h))
        have h_28 := gm_up_self (gm_up Mv (N + 1 + i) (.inr (2, [.int 0, .int 0, .int 0, .int 0, .int (nI 0), .int 0, .int 0, .int 0]))) N (.inl (ca 3, 16, .inr (.inr (.inr (.inr (va_up fq i (some (N + 1 + i))))))))
        have hf_29 : ∀ fi, fi < i → (gm_up (gm_up Mv (N + 1 + i) (.inr (2, [.int 0, .int 0, .int 0, .int 0, .int (nI 0), .int 0, .int 0, .int 0]))) N (.inl (ca 3, 16, .inr (.inr (.inr (.inr (va_up fq i (some (N + 1 + i))))))))) (seq1 (N + 1) fi) = some (.inr (2, [.int 0, .int 0, .int 0, .int 0, .int (nI 0), .int 0, .int 0, .int 0])) := fun fi hfi => gm_pass (k := N) (y := .inl (ca 3, 16, .inr (.inr (.inr (.inr (va_up fq i (some (N + 1 + i)))))))) (hf_25 fi hfi) (gm_ne (hf_25 fi hfi) h_23 (fun h => by cases h))
        refine lv_iinc (v := nI (i + 1)) (lv' := [(1, .int (nI (i + 1))), (0, .ref x)]) hx hb d_Ft_init_37 hl (k := 1) rfl (nI_1 i) (by decide) rfl (fun ls hl => ?_)
        refine lv_goto (tgt := 15) hx hb d_Ft_init_40 (by decide) ?_
        refine W.widen (k := 1 + (i + 1)) (n := 16 + 8 * (i + 1)) (show 1 + i + 1 + 0 ≤ 1 + (i + 1) by omega) (show 16 + 8 * i + 8 + 0 ≤ 16 + 8 * (i + 1) by omega) ?_
        exact ih_15 (i + 1) (va_up fq i (some (N + 1 + i))) _ ls _ _ h_26 h_28 (fun fi hfi => by by_cases q : fi = i; subst q; exact h_27; exact hf_29 fi (by omega)) (fun j hj => by by_cases q : j = i; subst q; exact va_up_self _ _ _; exact (va_up_ne _ _ q).trans (hfq j (by omega))) (by omega) (fun z q0 hz => (gm_up_ne _ _ (by omega)).trans ((gm_up_ne _ _ (by omega)).trans ((hfrv z q0 (by omega)).trans (rfl)))) (by omega) hP hS (lv_sub hl [1, 0] rfl)
  exact loop_15 (_ + 1) 0 (fun _ => none) _ ls _ locs h_5 h_4 (fun fi hfi => absurd hfi (Nat.not_lt_zero _)) (fun j hj => absurd hj (Nat.not_lt_zero _)) (Nat.zero_le _) (fun z q0 hz => (gm_up_ne _ _ q0).trans ((gm_up_ne _ _ (by omega)).trans (rfl))) (Nat.lt_succ_self _) hP hS (lv_sub hl [1, 0] rfl)
end C30
