section C15
variable {l : Launch} {D : va_G} {ca : Nat → ClassId} {A : Nat → Prop} {G : gG} {N : Nat} {M : gm_M}

theorem rotx_lt2 {k n i : Nat} (hk : k < n) (hi : i < n) : rotx k n i < n := by unfold rotx; split <;> (try split) <;> omega
theorem sweep_t {P : (Nat → Nat) → Bool} {fl : Nat → Nat → Nat} {i n : Nat} (h : P (fl i) = true) : sweep P (i + 1) fl n = sweep P i (rot fl i n) (n - 1) := by simp [sweep, h]
theorem sweep_f {P : (Nat → Nat) → Bool} {fl : Nat → Nat → Nat} {i n : Nat} (h : P (fl i) = false) : sweep P (i + 1) fl n = sweep P i fl n := by simp [sweep, h]
def tP (tm : Nat) (a : Nat → Nat) : Bool := decide (limN (a 4) ≤ tm - a 5)
def eP (x y : Nat) (a : Nat → Nat) : Bool := decide (a 0 = x ∧ a 3 = y)
/-- a flow of the protocol has the public port -/
def used (fl : Nat → Nat → Nat) (n x y : Nat) : Prop := ∃ j, j < n ∧ fl j 0 = x ∧ fl j 3 = y
def fstM (fl : Nat → Nat → Nat) (i : Nat) : Bool := (List.range i).all (fun j => !(fl j 0 == fl i 0 && fl j 3 == fl i 3))
theorem fstM_iff {fl : Nat → Nat → Nat} {i : Nat} : fstM fl i = true ↔ ∀ j, j < i → ¬ (fl j 0 = fl i 0 ∧ fl j 3 = fl i 3) := by
  unfold fstM
  rw [List.all_eq_true]
  constructor
  · intro h j hj q
    have := h j (List.mem_range.mpr hj)
    simp [q.1, q.2] at this
  · intro h x hx
    have := h x (List.mem_range.mp hx)
    simp only [Bool.not_eq_true', Bool.and_eq_false_iff, beq_eq_false_iff_ne]
    by_cases a : fl x 0 = fl i 0
    · exact Or.inr (fun b => this ⟨a, b⟩)
    · exact Or.inl a
def mM (fl : Nat → Nat → Nat) : Nat → Nat
  | 0 => 0
  | i + 1 => mM fl i + (if 100 ≤ fl i 3 ∧ fstM fl i = true then 1 else 0)
theorem okF_up {fl : Nat → Nat → Nat} {k st tm cl : Nat} (h : okF fl) (hs : st ≤ 7) (ht : tm < 1000000) (hc : cl ≤ 1) : okF (va_up fl k (frow (fl k) st tm cl)) := by
  intro i
  by_cases q : i = k
  · subst q
    rw [va_up_self]
    obtain ⟨a1, a2, a3, a4, a5, a6, a7⟩ := h i
    refine ⟨fun q => ?_, a2, a3, a4, hs, a6, hc⟩
    unfold frow
    split
    · omega
    · split
      · exact ht
      · split
        · omega
        · exact a1 q
  · rw [va_up_ne _ _ q]; exact h i
set_option maxHeartbeats 4000000 in
set_option maxRecDepth 100000 in
theorem c_Ft_endTimedOut {tb rr n lo : Nat} {fa : Nat → Nat} {fl : Nat → Nat → Nat} {tm : Nat} (e1 : M tb = some (.inr (3, [.ref rr, .int (nI n)]))) (e2 : M rr = some (.inl (ca 3, 16, .inr (.inr (.inr (.inr (oF fa))))))) (hf : ∀ fi, fi < 16 → M (fa fi) = some (.inr (2, [.int (nI (fl fi 0)), .int (nI (fl fi 1)), .int (nI (fl fi 2)), .int (nI (fl fi 3)), .int (nI (fl fi 4)), .int (nI (fl fi 5)), .int (nI (fl fi 6)), .int (nI (fl fi 7))]))) (hn : n ≤ 16) (hA : okA lo fa) (hF : okF fl) (htb : tm < 1000000) (hlt : ∀ i, i < n → fl i 5 ≤ tm) : gC l D ca A G y_Ft_endTimedOut (.code y_Ft_endTimedOut b_Ft_endTimedOut 3 none) ({ frames := 1, cells := 0, slots := 0, locals := 23 }) N M [.ref tb, .int (nI tm)] gm_v (fun (_ : Unit) (N1 : Nat) (M1 : gm_M) => N = N1 ∧ ∃ (fa1 : Nat → Nat) (fl1 : Nat → Nat → Nat) (n1 : Nat), (sweep (tP tm) n fl n = (fl1, n1)) ∧ (n1 ≤ n) ∧ (okA lo fa1) ∧ (okF fl1) ∧ M1 tb = some (.inr (3, [.ref rr, .int (nI n1)])) ∧ M1 rr = some (.inl (ca 3, 16, .inr (.inr (.inr (.inr (oF fa1)))))) ∧ (∀ fi, fi < 16 → M1 (fa1 fi) = some (.inr (2, [.int (nI (fl1 fi 0)), .int (nI (fl1 fi 1)), .int (nI (fl1 fi 2)), .int (nI (fl1 fi 3)), .int (nI (fl1 fi 4)), .int (nI (fl1 fi 5)), .int (nI (fl1 fi 6)), .int (nI (fl1 fi 7))]))) ∧ (∀ z, z ≠ tb → z ≠ rr → M1 z = M z)) := by
  refine gm_body (by decide) (Nat.le_of_ble_eq_true rfl) (fun p e s m below meth c ls hx hb hr hts hown hlk hml hnm hP hK hN hX hS hl => ?_)
  have htl : ∀ w ∈ LW, w.before _ s = true := fun w h => hts w (List.mem_cons_of_mem _ h)
  have hown : s.vm.findClass "PacketGate$FlowTable" = some m.cls := hown
  have hl : lv_has ls 3 [(0, .ref tb), (1, .int (nI tm))] := hl
  generalize hQ : MQ below _ _ s _ _ A = Q
  have hfb : ∀ i q, fl i q < 1000000 := fun i q => (hF i).1 q
  refine lv_aload_n hx hb d_Ft_endTimedOut_0 rfl (lv_at hl 0 rfl) ?_
  refine gm_get (C := R_Ft) (T := F_Ft) (n := 2) hx hb htl i_Ft hown hK hP e1 rfl 1 (by decide) (htl _ k_159) (fun _ h => h) rfl d_Ft_endTimedOut_1 ?_
  refine lv_iconst (v := nI 1) hx hb d_Ft_endTimedOut_4 (by decide) ?_
  refine lv_isub hx hb d_Ft_endTimedOut_5 ?_
  refine lv_istore_n (lv' := [(2, .int (dn n)), (0, .ref tb), (1, .int (nI tm))]) hx hb d_Ft_endTimedOut_6 rfl hl (by decide) rfl (fun ls hl => ?_)
  have loop_7 : ∀ (fu : Nat) (j : Nat) (nv : Nat) (fv : Nat → Nat) (gv : Nat → Nat → Nat) (Mv : gm_M) (ls : Array Slot) (H : Heap) (locs : List Loc), (Mv tb = some (.inr (3, [.ref rr, .int (nI nv)]))) → (Mv rr = some (.inl (ca 3, 16, .inr (.inr (.inr (.inr (oF fv))))))) → (∀ fi, fi < 16 → Mv (fv fi) = some (.inr (2, [.int (nI (gv fi 0)), .int (nI (gv fi 1)), .int (nI (gv fi 2)), .int (nI (gv fi 3)), .int (nI (gv fi 4)), .int (nI (gv fi 5)), .int (nI (gv fi 6)), .int (nI (gv fi 7))]))) → (j ≤ nv ∧ nv ≤ n) → (okA lo fv) → (okF gv) → (sweep (tP tm) j gv nv = sweep (tP tm) n fl n) → (∀ z, z ≠ tb → z ≠ rr → Mv z = M z) → (∀ i, i < nv → gv i 5 ≤ tm) → j < fu → gm_P D cls A N Mv H → va_S A s.heap H locs → lv_has ls 3 [(0, .ref tb), (1, .int (nI tm)), (2, .int (dn j))] → W p l e ({ frames := 1, cells := 0, slots := 0, locals := 23 }) s m ([.ref tb, .int (nI tm)] : List Value).toArray below meth c H locs (0) (0) Q (F0 m 7 ls []) := by
    intro fu
    induction fu with
    | zero => intro j nv fv gv Mv ls H locs e1v e2v hfv hjn hAv hFv hsw hfrv hltv hk; exact absurd hk (Nat.not_lt_zero _)
    | succ fu ih_7 =>
      intro j nv fv gv Mv ls H locs e1v e2v hfv hjn hAv hFv hsw hfrv hltv hk hP hS hl
      have hfbv : ∀ i q, gv i q < 1000000 := fun i q => (hFv i).1 q
      rcases j with _ | i
      · skip
        rw [dn_0] at hl
        refine lv_iload_n hx hb d_Ft_endTimedOut_7 rfl (lv_at hl 2 rfl) ?_
        refine lv_if_lt (tgt := 35) hx hb d_Ft_endTimedOut_8 (by decide) (fun _ => ?_) (fun q => absurd q (by decide))
        rw [← hQ]
        exact gc_vret hx hb hr hlk hP hS d_Ft_endTimedOut_35 ⟨rfl, fv, gv, nv, hsw.symm, hjn.2, hAv, hFv, e1v, e2v, hfv, (fun z q0 q1 => (hfrv z q0 q1).trans (rfl))⟩
      · skip
        rw [dn_s] at hl
        refine lv_iload_n hx hb d_Ft_endTimedOut_7 rfl (lv_at hl 2 rfl) ?_
        refine lz_lt (tgt := 35) hx hb d_Ft_endTimedOut_8 (by decide) (by omega) ?_
        refine lv_aload_n hx hb d_Ft_endTimedOut_11 rfl (lv_at hl 0 rfl) ?_
        refine gm_get (C := R_Ft) (T := F_Ft) (n := 2) hx hb htl i_Ft hown hK hP e1v rfl 0 (by decide) (htl _ k_158) (fun _ h => h) rfl d_Ft_endTimedOut_12 ?_
        refine lv_iload_n hx hb d_Ft_endTimedOut_15 rfl (lv_at hl 2 rfl) ?_
        refine gn_aald hx hb hK hP 3 e2v rfl (by omega) (by omega) rfl d_Ft_endTimedOut_16 ?_
        refine lv_iload_n hx hb d_Ft_endTimedOut_17 rfl (lv_at hl 1 rfl) ?_
        refine gc_V (q := (R_Fl, F_Fl, 8)) (n := 1) [.int (nI tm)] [] hx hb hml hown hts hK hN hX hP hS (c_Fl_isTimedOut (hfv i (by omega)) ((hFv _).2.2.2.2.1) (hltv _ (by omega)) (by omega)) rfl (hfv i (by omega)) k_705 k_706 k_707 k_8 k_708 (by decide +kernel) ⟨by decide, by decide⟩ rfl hl.1 rfl (Nat.le_of_ble_eq_true rfl) d_Ft_endTimedOut_18 ⟨by decide, by decide⟩ (fun r N1 M_2 H locs hw hP hS => ?_)
        obtain ⟨rfl, hw⟩ := hw
        rcases hw with ⟨c_3, rfl, rfl⟩ | ⟨c_4, rfl, rfl⟩
        · skip
          refine W.eq (g2 := F0 m 21 ls [.int (nI 1)]) rfl ?_
          refine lv_if_eq (tgt := 29) hx hb d_Ft_endTimedOut_21 (by decide) (fun q => absurd q (by decide)) (fun _ => ?_)
          refine lv_aload_n hx hb d_Ft_endTimedOut_24 rfl (lv_at hl 0 rfl) ?_
          refine lv_iload_n hx hb d_Ft_endTimedOut_25 rfl (lv_at hl 2 rfl) ?_
          refine gc_V (q := (R_Ft, F_Ft, 2)) (n := 1) [.int (nI i)] [] hx hb hml hown hts hK hN hX hP hS (c_Ft_remove e1v e2v hfv (by omega) hAv hFv (by omega)) rfl e1v k_542 k_544 ks_Ft_remove k_7 k_545 (by decide +kernel) ⟨by decide, by decide⟩ rfl hl.1 rfl (Nat.le_of_ble_eq_true rfl) d_Ft_endTimedOut_26 ⟨by decide, by decide⟩ (fun r N1 M_5 H locs hw hP hS => ?_)
          obtain ⟨rfl, hw⟩ := hw
          obtain rfl := hw
          have h_6 := gm_pass (k := rr) (y := .inl (ca 3, 16, .inr (.inr (.inr (.inr (oF (rot fv i nv))))))) e1v (gm_ne e1v e2v (fun h => by cases h))
          have h_7 := gm_up_self Mv rr (.inl (ca 3, 16, .inr (.inr (.inr (.inr (oF (rot fv i nv)))))))
          have hf_8 : ∀ fi, fi < 16 → (gm_up Mv rr (.inl (ca 3, 16, .inr (.inr (.inr (.inr (oF (rot fv i nv)))))))) (fv fi) = some (.inr (2, [.int (nI (gv fi 0)), .int (nI (gv fi 1)), .int (nI (gv fi 2)), .int (nI (gv fi 3)), .int (nI (gv fi 4)), .int (nI (gv fi 5)), .int (nI (gv fi 6)), .int (nI (gv fi 7))])) := fun fi hfi => gm_pass (k := rr) (y := .inl (ca 3, 16, .inr (.inr (.inr (.inr (oF (rot fv i nv))))))) (hfv fi hfi) (gm_ne (hfv fi hfi) e2v (fun h => by cases h))
          have hP : gm_P D cls A N (gm_up (gm_up Mv rr (.inl (ca 3, 16, .inr (.inr (.inr (.inr (oF (rot fv i nv)))))))) tb (.inr (3, [.ref rr, .int (nI (nv - 1))]))) H := hP
          have h_9 := gm_pass (k := tb) (y := .inr (3, [.ref rr, .int (nI (nv - 1))])) h_7 (gm_ne h_7 h_6 (fun h => by cases h))
          have h_10 := gm_up_self (gm_up Mv rr (.inl (ca 3, 16, .inr (.inr (.inr (.inr (oF (rot fv i nv)))))))) tb (.inr (3, [.ref rr, .int (nI (nv - 1))]))
          have hf_11 : ∀ fi, fi < 16 → (gm_up (gm_up Mv rr (.inl (ca 3, 16, .inr (.inr (.inr (.inr (oF (rot fv i nv)))))))) tb (.inr (3, [.ref rr, .int (nI (nv - 1))]))) (fv fi) = some (.inr (2, [.int (nI (gv fi 0)), .int (nI (gv fi 1)), .int (nI (gv fi 2)), .int (nI (gv fi 3)), .int (nI (gv fi 4)), .int (nI (gv fi 5)), .int (nI (gv fi 6)), .int (nI (gv fi 7))])) := fun fi hfi => gm_pass (k := tb) (y := .inr (3, [.ref rr, .int (nI (nv - 1))])) (hf_8 fi hfi) (gm_ne (hf_8 fi hfi) h_6 (fun h => by cases h))
          refine W.eq (g2 := F0 m 29 ls []) rfl ?_
          refine lv_iinc (v := dn i) (lv' := [(2, .int (dn i)), (0, .ref tb), (1, .int (nI tm))]) hx hb d_Ft_endTimedOut_29 hl (k := 2) rfl (dn_inc _) (by decide) rfl (fun ls hl => ?_)
          refine lv_goto (tgt := 7) hx hb d_Ft_endTimedOut_32 (by decide) ?_
          exact ih_7 i (nv - 1) (rot fv i nv) (rot gv i nv) _ ls _ _ h_10 h_9 (fam_rot hf_11 (by omega) (by omega)) (⟨by omega, by omega⟩) (okA_rot hAv (by omega) (by omega)) (okF_rot hFv) ((sweep_t (decide_eq_true c_3)).symm.trans hsw) (fun z q0 q1 => (gm_up_ne _ _ q0).trans ((gm_up_ne _ _ q1).trans ((hfrv z q0 q1).trans (rfl)))) (fun q hq => by rw [rot_x]; exact hltv _ (rotx_lt2 (by omega) (by omega))) (by omega) hP hS (lv_sub hl [1, 2, 0] rfl)
        · skip
          refine W.eq (g2 := F0 m 21 ls [.int (nI 0)]) rfl ?_
          refine lv_if_eq (tgt := 29) hx hb d_Ft_endTimedOut_21 (by decide) (fun _ => ?_) (fun q => absurd q (by decide))
          refine lv_iinc (v := dn i) (lv' := [(2, .int (dn i)), (0, .ref tb), (1, .int (nI tm))]) hx hb d_Ft_endTimedOut_29 hl (k := 2) rfl (dn_inc _) (by decide) rfl (fun ls hl => ?_)
          refine lv_goto (tgt := 7) hx hb d_Ft_endTimedOut_32 (by decide) ?_
          exact ih_7 i nv fv gv _ ls _ _ e1v e2v hfv (⟨by omega, by omega⟩) hAv hFv ((sweep_f (decide_eq_false (Nat.not_le.mpr c_4))).symm.trans hsw) (fun z q0 q1 => (hfrv z q0 q1).trans (rfl)) hltv (by omega) hP hS (lv_sub hl [1, 2, 0] rfl)
  exact loop_7 (_ + 1) n n fa fl _ ls _ _ e1 e2 hf (⟨Nat.le_refl _, Nat.le_refl _⟩) hA hF rfl (fun z _ _ => rfl) hlt (Nat.lt_succ_self _) hP hS (lv_sub hl [1, 2, 0] rfl)
set_option maxHeartbeats 4000000 in
set_option maxRecDepth 100000 in
theorem c_Ft_endMapped {tb rr n lo : Nat} {fa : Nat → Nat} {fl : Nat → Nat → Nat} {x y : Nat} (e1 : M tb = some (.inr (3, [.ref rr, .int (nI n)]))) (e2 : M rr = some (.inl (ca 3, 16, .inr (.inr (.inr (.inr (oF fa))))))) (hf : ∀ fi, fi < 16 → M (fa fi) = some (.inr (2, [.int (nI (fl fi 0)), .int (nI (fl fi 1)), .int (nI (fl fi 2)), .int (nI (fl fi 3)), .int (nI (fl fi 4)), .int (nI (fl fi 5)), .int (nI (fl fi 6)), .int (nI (fl fi 7))]))) (hn : n ≤ 16) (hA : okA lo fa) (hF : okF fl) (hx0 : x < 65536) (hy0 : y < 65536) : gC l D ca A G y_Ft_endMapped (.code y_Ft_endMapped b_Ft_endMapped 4 none) ({ frames := 1, cells := 0, slots := 0, locals := 23 }) N M [.ref tb, .int (nI x), .int (nI y)] gm_v (fun (_ : Unit) (N1 : Nat) (M1 : gm_M) => N = N1 ∧ ∃ (fa1 : Nat → Nat) (fl1 : Nat → Nat → Nat) (n1 : Nat), (sweep (eP x y) n fl n = (fl1, n1)) ∧ (n1 ≤ n) ∧ (okA lo fa1) ∧ (okF fl1) ∧ M1 tb = some (.inr (3, [.ref rr, .int (nI n1)])) ∧ M1 rr = some (.inl (ca 3, 16, .inr (.inr (.inr (.inr (oF fa1)))))) ∧ (∀ fi, fi < 16 → M1 (fa1 fi) = some (.inr (2, [.int (nI (fl1 fi 0)), .int (nI (fl1 fi 1)), .int (nI (fl1 fi 2)), .int (nI (fl1 fi 3)), .int (nI (fl1 fi 4)), .int (nI (fl1 fi 5)), .int (nI (fl1 fi 6)), .int (nI (fl1 fi 7))]))) ∧ (∀ z, z ≠ tb → z ≠ rr → M1 z = M z)) := by
  refine gm_body (by decide) (Nat.le_of_ble_eq_true rfl) (fun p e s m below meth c ls hx hb hr hts hown hlk hml hnm hP hK hN hX hS hl => ?_)
  have htl : ∀ w ∈ LW, w.before _ s = true := fun w h => hts w (List.mem_cons_of_mem _ h)
  have hown : s.vm.findClass "PacketGate$FlowTable" = some m.cls := hown
  have hl : lv_has ls 4 [(0, .ref tb), (1, .int (nI x)), (2, .int (nI y))] := hl
  generalize hQ : MQ below _ _ s _ _ A = Q
  have hfb : ∀ i q, fl i q < 1000000 := fun i q => (hF i).1 q
  refine lv_aload_n hx hb d_Ft_endMapped_0 rfl (lv_at hl 0 rfl) ?_
  refine gm_get (C := R_Ft) (T := F_Ft) (n := 2) hx hb htl i_Ft hown hK hP e1 rfl 1 (by decide) (htl _ k_159) (fun _ h => h) rfl d_Ft_endMapped_1 ?_
  refine lv_iconst (v := nI 1) hx hb d_Ft_endMapped_4 (by decide) ?_
  refine lv_isub hx hb d_Ft_endMapped_5 ?_
  refine lv_istore_n (lv' := [(3, .int (dn n)), (0, .ref tb), (1, .int (nI x)), (2, .int (nI y))]) hx hb d_Ft_endMapped_6 rfl hl (by decide) rfl (fun ls hl => ?_)
  have loop_7 : ∀ (fu : Nat) (j : Nat) (nv : Nat) (fv : Nat → Nat) (gv : Nat → Nat → Nat) (Mv : gm_M) (ls : Array Slot) (H : Heap) (locs : List Loc), (Mv tb = some (.inr (3, [.ref rr, .int (nI nv)]))) → (Mv rr = some (.inl (ca 3, 16, .inr (.inr (.inr (.inr (oF fv))))))) → (∀ fi, fi < 16 → Mv (fv fi) = some (.inr (2, [.int (nI (gv fi 0)), .int (nI (gv fi 1)), .int (nI (gv fi 2)), .int (nI (gv fi 3)), .int (nI (gv fi 4)), .int (nI (gv fi 5)), .int (nI (gv fi 6)), .int (nI (gv fi 7))]))) → (j ≤ nv ∧ nv ≤ n) → (okA lo fv) → (okF gv) → (sweep (eP x y) j gv nv = sweep (eP x y) n fl n) → (∀ z, z ≠ tb → z ≠ rr → Mv z = M z) → j < fu → gm_P D cls A N Mv H → va_S A s.heap H locs → lv_has ls 4 [(0, .ref tb), (1, .int (nI x)), (2, .int (nI y)), (3, .int (dn j))] → W p l e ({ frames := 1, cells := 0, slots := 0, locals := 23 }) s m ([.ref tb, .int (nI x), .int (nI y)] : List Value).toArray below meth c H locs (0) (0) Q (F0 m 7 ls []) := by
    intro fu
    induction fu with
    | zero => intro j nv fv gv Mv ls H locs e1v e2v hfv hjn hAv hFv hsw hfrv hk; exact absurd hk (Nat.not_lt_zero _)
    | succ fu ih_7 =>
      intro j nv fv gv Mv ls H locs e1v e2v hfv hjn hAv hFv hsw hfrv hk hP hS hl
      have hfbv : ∀ i q, gv i q < 1000000 := fun i q => (hFv i).1 q
      rcases j with _ | i
      · skip
        rw [dn_0] at hl
        refine lv_iload_n hx hb d_Ft_endMapped_7 rfl (lv_at hl 3 rfl) ?_
        refine lv_if_lt (tgt := 48) hx hb d_Ft_endMapped_8 (by decide) (fun _ => ?_) (fun q => absurd q (by decide))
        rw [← hQ]
        exact gc_vret hx hb hr hlk hP hS d_Ft_endMapped_48 ⟨rfl, fv, gv, nv, hsw.symm, hjn.2, hAv, hFv, e1v, e2v, hfv, (fun z q0 q1 => (hfrv z q0 q1).trans (rfl))⟩
      · skip
        rw [dn_s] at hl
        refine lv_iload_n hx hb d_Ft_endMapped_7 rfl (lv_at hl 3 rfl) ?_
        refine lz_lt (tgt := 48) hx hb d_Ft_endMapped_8 (by decide) (by omega) ?_
        refine lv_aload_n hx hb d_Ft_endMapped_11 rfl (lv_at hl 0 rfl) ?_
        refine gm_get (C := R_Ft) (T := F_Ft) (n := 2) hx hb htl i_Ft hown hK hP e1v rfl 0 (by decide) (htl _ k_158) (fun _ h => h) rfl d_Ft_endMapped_12 ?_
        refine lv_iload_n hx hb d_Ft_endMapped_15 rfl (lv_at hl 3 rfl) ?_
        refine gn_aald hx hb hK hP 3 e2v rfl (by omega) (by omega) rfl d_Ft_endMapped_16 ?_
        refine gm_get (C := R_Fl) (T := F_Fl) (n := 8) hx hb htl i_Fl hown hK hP (hfv i (by omega)) rfl 0 (by decide) (htl _ k_128) (fun _ h => h) rfl d_Ft_endMapped_17 ?_
        have b_2 := hfbv i 0
        refine lv_iload_n hx hb d_Ft_endMapped_20 rfl (lv_at hl 1 rfl) ?_
        refine ln_ne (tgt := 42) hx hb d_Ft_endMapped_21 (by decide) (by omega) (by omega) (fun c_3 => ?_) (fun c_3 => ?_)
        · skip
          refine lv_iinc (v := dn i) (lv' := [(3, .int (dn i)), (0, .ref tb), (1, .int (nI x)), (2, .int (nI y))]) hx hb d_Ft_endMapped_42 hl (k := 3) rfl (dn_inc _) (by decide) rfl (fun ls hl => ?_)
          refine lv_goto (tgt := 7) hx hb d_Ft_endMapped_45 (by decide) ?_
          exact ih_7 i nv fv gv _ ls _ _ e1v e2v hfv (⟨by omega, by omega⟩) hAv hFv ((sweep_f (decide_eq_false (fun z => c_3 z.1))).symm.trans hsw) (fun z q0 q1 => (hfrv z q0 q1).trans (rfl)) (by omega) hP hS (lv_sub hl [1, 2, 3, 0] rfl)
        · skip
          refine lv_aload_n hx hb d_Ft_endMapped_24 rfl (lv_at hl 0 rfl) ?_
          refine gm_get (C := R_Ft) (T := F_Ft) (n := 2) hx hb htl i_Ft hown hK hP e1v rfl 0 (by decide) (htl _ k_158) (fun _ h => h) rfl d_Ft_endMapped_25 ?_
          refine lv_iload_n hx hb d_Ft_endMapped_28 rfl (lv_at hl 3 rfl) ?_
          refine gn_aald hx hb hK hP 3 e2v rfl (by omega) (by omega) rfl d_Ft_endMapped_29 ?_
          refine gm_get (C := R_Fl) (T := F_Fl) (n := 8) hx hb htl i_Fl hown hK hP (hfv i (by omega)) rfl 3 (by decide) (htl _ k_134) (fun _ h => h) rfl d_Ft_endMapped_30 ?_
          have b_4 := hfbv i 3
          refine lv_iload_n hx hb d_Ft_endMapped_33 rfl (lv_at hl 2 rfl) ?_
          refine ln_ne (tgt := 42) hx hb d_Ft_endMapped_34 (by decide) (by omega) (by omega) (fun c_5 => ?_) (fun c_5 => ?_)
          · skip
            refine lv_iinc (v := dn i) (lv' := [(3, .int (dn i)), (0, .ref tb), (1, .int (nI x)), (2, .int (nI y))]) hx hb d_Ft_endMapped_42 hl (k := 3) rfl (dn_inc _) (by decide) rfl (fun ls hl => ?_)
            refine lv_goto (tgt := 7) hx hb d_Ft_endMapped_45 (by decide) ?_
            exact ih_7 i nv fv gv _ ls _ _ e1v e2v hfv (⟨by omega, by omega⟩) hAv hFv ((sweep_f (decide_eq_false (fun z => c_5 z.2))).symm.trans hsw) (fun z q0 q1 => (hfrv z q0 q1).trans (rfl)) (by omega) hP hS (lv_sub hl [1, 2, 3, 0] rfl)
          · skip
            refine lv_aload_n hx hb d_Ft_endMapped_37 rfl (lv_at hl 0 rfl) ?_
            refine lv_iload_n hx hb d_Ft_endMapped_38 rfl (lv_at hl 3 rfl) ?_
            refine gc_V (q := (R_Ft, F_Ft, 2)) (n := 1) [.int (nI i)] [] hx hb hml hown hts hK hN hX hP hS (c_Ft_remove e1v e2v hfv (by omega) hAv hFv (by omega)) rfl e1v k_542 k_544 ks_Ft_remove k_7 k_545 (by decide +kernel) ⟨by decide, by decide⟩ rfl hl.1 rfl (Nat.le_of_ble_eq_true rfl) d_Ft_endMapped_39 ⟨by decide, by decide⟩ (fun r N1 M_6 H locs hw hP hS => ?_)
            obtain ⟨rfl, hw⟩ := hw
            obtain rfl := hw
            have h_7 := gm_pass (k := rr) (y := .inl (ca 3, 16, .inr (.inr (.inr (.inr (oF (rot fv i nv))))))) e1v (gm_ne e1v e2v (fun h => by cases h))
            have h_8 := gm_up_self Mv rr (.inl (ca 3, 16, .inr (.inr (.inr (.inr (oF (rot fv i nv)))))))
            have hf_9 : ∀ fi, fi < 16 → (gm_up Mv rr (.inl (ca 3, 16, .inr (.inr (.inr (.inr (oF (rot fv i nv)))))))) (fv fi) = some (.inr (2, [.int (nI (gv fi 0)), .int (nI (gv fi 1)), .int (nI (gv fi 2)), .int (nI (gv fi 3)), .int (nI (gv fi 4)), .int (nI (gv fi 5)), .int (nI (gv fi 6)), .int (nI (gv fi 7))])) := fun fi hfi => gm_pass (k := rr) (y := .inl (ca 3, 16, .inr (.inr (.inr (.inr (oF (rot fv i nv))))))) (hfv fi hfi) (gm_ne (hfv fi hfi) e2v (fun h => by cases h))
            have hP : gm_P D cls A N (gm_up (gm_up Mv rr (.inl (ca 3, 16, .inr (.inr (.inr (.inr (oF (rot fv i nv)))))))) tb (.inr (3, [.ref rr, .int (nI (nv - 1))]))) H := hP
            have h_10 := gm_pass (k := tb) (y := .inr (3, [.ref rr, .int (nI (nv - 1))])) h_8 (gm_ne h_8 h_7 (fun h => by cases h))
            have h_11 := gm_up_self (gm_up Mv rr (.inl (ca 3, 16, .inr (.inr (.inr (.inr (oF (rot fv i nv)))))))) tb (.inr (3, [.ref rr, .int (nI (nv - 1))]))
            have hf_12 : ∀ fi, fi < 16 → (gm_up (gm_up Mv rr (.inl (ca 3, 16, .inr (.inr (.inr (.inr (oF (rot fv i nv)))))))) tb (.inr (3, [.ref rr, .int (nI (nv - 1))]))) (fv fi) = some (.inr (2, [.int (nI (gv fi 0)), .int (nI (gv fi 1)), .int (nI (gv fi 2)), .int (nI (gv fi 3)), .int (nI (gv fi 4)), .int (nI (gv fi 5)), .int (nI (gv fi 6)), .int (nI (gv fi 7))])) := fun fi hfi => gm_pass (k := tb) (y := .inr (3, [.ref rr, .int (nI (nv - 1))])) (hf_9 fi hfi) (gm_ne (hf_9 fi hfi) h_7 (fun h => by cases h))
            refine W.eq (g2 := F0 m 42 ls []) rfl ?_
            refine lv_iinc (v := dn i) (lv' := [(3, .int (dn i)), (0, .ref tb), (1, .int (nI x)), (2, .int (nI y))]) hx hb d_Ft_endMapped_42 hl (k := 3) rfl (dn_inc _) (by decide) rfl (fun ls hl => ?_)
            refine lv_goto (tgt := 7) hx hb d_Ft_endMapped_45 (by decide) ?_
            exact ih_7 i (nv - 1) (rot fv i nv) (rot gv i nv) _ ls _ _ h_11 h_10 (fam_rot hf_12 (by omega) (by omega)) (⟨by omega, by omega⟩) (okA_rot hAv (by omega) (by omega)) (okF_rot hFv) ((sweep_t (decide_eq_true ⟨c_3, c_5⟩)).symm.trans hsw) (fun z q0 q1 => (gm_up_ne _ _ q0).trans ((gm_up_ne _ _ q1).trans ((hfrv z q0 q1).trans (rfl)))) (by omega) hP hS (lv_sub hl [1, 2, 3, 0] rfl)
  exact loop_7 (_ + 1) n n fa fl _ ls _ _ e1 e2 hf (⟨Nat.le_refl _, Nat.le_refl _⟩) hA hF rfl (fun z _ _ => rfl) (Nat.lt_succ_self _) hP hS (lv_sub hl [1, 2, 3, 0] rfl)
set_option maxHeartbeats 4000000 in
set_option maxRecDepth 100000 in
theorem c_Ft_freePort {tb rr n lo : Nat} {fa : Nat → Nat} {fl : Nat → Nat → Nat} {a : Nat} (e1 : M tb = some (.inr (3, [.ref rr, .int (nI n)]))) (e2 : M rr = some (.inl (ca 3, 16, .inr (.inr (.inr (.inr (oF fa))))))) (hf : ∀ fi, fi < 16 → M (fa fi) = some (.inr (2, [.int (nI (fl fi 0)), .int (nI (fl fi 1)), .int (nI (fl fi 2)), .int (nI (fl fi 3)), .int (nI (fl fi 4)), .int (nI (fl fi 5)), .int (nI (fl fi 6)), .int (nI (fl fi 7))]))) (hn : n ≤ 16) (hA : okA lo fa) (hF : okF fl) (ha : a < 65536) : gC l D ca A G y_Ft_freePort (.code y_Ft_freePort b_Ft_freePort 3 (some .int)) ({ frames := 1, cells := 0, slots := 0, locals := 23 }) N M [.ref tb, .int (nI a)] gm_i (fun (r : Int32) (N1 : Nat) (M1 : gm_M) => N = N1 ∧ ((∃ (k : Nat), (100 ≤ k ∧ k ≤ 111) ∧ (¬ used fl n a k) ∧ (∀ q, 100 ≤ q → q < k → used fl n a q) ∧ M = M1 ∧ nI k = r) ∨ ((∀ q, 100 ≤ q → q ≤ 111 → used fl n a q) ∧ M = M1 ∧ (-1) = r))) := by
  refine gm_body (by decide) (Nat.le_of_ble_eq_true rfl) (fun p e s m below meth c ls hx hb hr hts hown hlk hml hnm hP hK hN hX hS hl => ?_)
  have htl : ∀ w ∈ LW, w.before _ s = true := fun w h => hts w (List.mem_cons_of_mem _ h)
  have hown : s.vm.findClass "PacketGate$FlowTable" = some m.cls := hown
  have hl : lv_has ls 3 [(0, .ref tb), (1, .int (nI a))] := hl
  generalize hQ : MQ below _ _ s _ _ A = Q
  have hfb : ∀ i q, fl i q < 1000000 := fun i q => (hF i).1 q
  refine lv_bipush (v := nI 100) hx hb d_Ft_freePort_0 (by decide) ?_
  refine lv_istore_n (lv' := [(2, .int (nI 100)), (0, .ref tb), (1, .int (nI a))]) hx hb d_Ft_freePort_2 rfl hl (by decide) rfl (fun ls hl => ?_)
  have loop_3 : ∀ (fu : Nat) (pt : Nat) (ls : Array Slot) (H : Heap) (locs : List Loc), (100 ≤ pt ∧ pt ≤ 112) → (∀ q, 100 ≤ q → q < pt → used fl n a q) → (112 - pt) < fu → gm_P D cls A N M H → va_S A s.heap H locs → lv_has ls 3 [(0, .ref tb), (1, .int (nI a)), (2, .int (nI pt))] → W p l e ({ frames := 1, cells := 0, slots := 0, locals := 23 }) s m ([.ref tb, .int (nI a)] : List Value).toArray below meth c H locs (0) (0) Q (F0 m 3 ls []) := by
    intro fu
    induction fu with
    | zero => intro pt ls H locs hpt hus hk; exact absurd hk (Nat.not_lt_zero _)
    | succ fu ih_3 =>
      intro pt ls H locs hpt hus hk hP hS hl
      refine lv_iload_n hx hb d_Ft_freePort_3 rfl (lv_at hl 2 rfl) ?_
      refine lv_bipush (v := nI 111) hx hb d_Ft_freePort_4 (by decide) ?_
      refine ln_gt (tgt := 27) hx hb d_Ft_freePort_6 (by decide) (by omega) (by omega) (fun c_1 => ?_) (fun c_1 => ?_)
      · skip
        refine lv_iconst (v := (-1)) hx hb d_Ft_freePort_27 (by decide) ?_
        rw [← hQ]
        exact gc_iret hx hb hr hlk hP hS d_Ft_freePort_28 ⟨rfl, Or.inr ⟨fun q h1 h2 => hus q h1 (by omega), rfl, rfl⟩⟩
      · skip
        refine lv_aload_n hx hb d_Ft_freePort_9 rfl (lv_at hl 0 rfl) ?_
        refine lv_iload_n hx hb d_Ft_freePort_10 rfl (lv_at hl 1 rfl) ?_
        refine lv_iload_n hx hb d_Ft_freePort_11 rfl (lv_at hl 2 rfl) ?_
        refine gc_V (q := (R_Ft, F_Ft, 2)) (n := 2) [.int (nI a), .int (nI pt)] [] hx hb hml hown hts hK hN hX hP hS (c_Ft_findPort e1 e2 hf (by omega) hA hF (by omega) (by omega)) rfl e1 k_505 k_507 ks_Ft_findPort k_7 k_508 (by decide +kernel) ⟨by decide, by decide⟩ rfl hl.1 rfl (Nat.le_of_ble_eq_true rfl) d_Ft_freePort_12 ⟨by decide, by decide⟩ (fun r N1 M_2 H locs hw hP hS => ?_)
        obtain ⟨rfl, hw⟩ := hw
        rcases hw with ⟨kv_3, c_4, c_5, c_6, rfl, rfl⟩ | ⟨c_7, rfl, rfl⟩
        · skip
          refine W.eq (g2 := F0 m 15 ls [.int (nI kv_3)]) rfl ?_
          refine lv_iconst (v := (-1)) hx hb d_Ft_freePort_15 (by decide) ?_
          refine lv_icmp_ne (tgt := 21) hx hb d_Ft_freePort_16 (by decide) (fun _ => ?_) (fun q => absurd q (nI_nm1 (by omega)))
          refine lv_iinc (v := nI (pt + 1)) (lv' := [(2, .int (nI (pt + 1))), (0, .ref tb), (1, .int (nI a))]) hx hb d_Ft_freePort_21 hl (k := 2) rfl (nI_1 pt) (by decide) rfl (fun ls hl => ?_)
          refine lv_goto (tgt := 3) hx hb d_Ft_freePort_24 (by decide) ?_
          exact ih_3 (pt + 1) ls _ _ (⟨by omega, by omega⟩) (fun q h1 h2 => by rcases Nat.lt_succ_iff_lt_or_eq.mp h2 with z | z; exact hus q h1 z; subst z; exact ⟨kv_3, c_4, c_5⟩) (by omega) hP hS (lv_sub hl [1, 2, 0] rfl)
        · skip
          refine W.eq (g2 := F0 m 15 ls [.int (-1)]) rfl ?_
          refine lv_iconst (v := (-1)) hx hb d_Ft_freePort_15 (by decide) ?_
          refine lv_icmp_ne (tgt := 21) hx hb d_Ft_freePort_16 (by decide) (fun q => absurd q (by decide)) (fun _ => ?_)
          refine lv_iload_n hx hb d_Ft_freePort_19 rfl (lv_at hl 2 rfl) ?_
          rw [← hQ]
          exact gc_iret hx hb hr hlk hP hS d_Ft_freePort_20 ⟨rfl, Or.inl ⟨pt, ⟨hpt.1, by omega⟩, (fun ⟨j, h1, h2⟩ => c_7 j h1 h2), hus, rfl, rfl⟩⟩
  exact loop_3 (_ + 1) 100 ls _ _ (⟨Nat.le_refl _, by omega⟩) (fun q h1 h2 => absurd h1 (by omega)) (Nat.lt_succ_self _) hP hS (lv_sub hl [1, 2, 0] rfl)
set_option maxHeartbeats 4000000 in
set_option maxRecDepth 100000 in
theorem c_Ft_mappingsMade {tb rr n lo : Nat} {fa : Nat → Nat} {fl : Nat → Nat → Nat} (e1 : M tb = some (.inr (3, [.ref rr, .int (nI n)]))) (e2 : M rr = some (.inl (ca 3, 16, .inr (.inr (.inr (.inr (oF fa))))))) (hf : ∀ fi, fi < 16 → M (fa fi) = some (.inr (2, [.int (nI (fl fi 0)), .int (nI (fl fi 1)), .int (nI (fl fi 2)), .int (nI (fl fi 3)), .int (nI (fl fi 4)), .int (nI (fl fi 5)), .int (nI (fl fi 6)), .int (nI (fl fi 7))]))) (hn : n ≤ 16) (hA : okA lo fa) (hF : okF fl) : gC l D ca A G y_Ft_mappingsMade (.code y_Ft_mappingsMade b_Ft_mappingsMade 4 (some .int)) ({ frames := 1, cells := 0, slots := 0, locals := 23 }) N M [.ref tb] gm_i (fun (r : Int32) (N1 : Nat) (M1 : gm_M) => N = N1 ∧ M = M1 ∧ nI (mM fl n) = r) := by
  refine gm_body (by decide) (Nat.le_of_ble_eq_true rfl) (fun p e s m below meth c ls hx hb hr hts hown hlk hml hnm hP hK hN hX hS hl => ?_)
  have htl : ∀ w ∈ LW, w.before _ s = true := fun w h => hts w (List.mem_cons_of_mem _ h)
  have hown : s.vm.findClass "PacketGate$FlowTable" = some m.cls := hown
  have hl : lv_has ls 4 [(0, .ref tb)] := hl
  generalize hQ : MQ below _ _ s _ _ A = Q
  have hfb : ∀ i q, fl i q < 1000000 := fun i q => (hF i).1 q
  have hpr : ∀ i, fl i 0 ≤ 2 := fun i => (hF i).2.1
  refine lv_iconst (v := nI 0) hx hb d_Ft_mappingsMade_0 (by decide) ?_
  refine lv_istore_n (lv' := [(1, .int (nI 0)), (0, .ref tb)]) hx hb d_Ft_mappingsMade_1 rfl hl (by decide) rfl (fun ls hl => ?_)
  refine lv_iconst (v := nI 0) hx hb d_Ft_mappingsMade_2 (by decide) ?_
  refine lv_istore_n (lv' := [(2, .int (nI 0)), (1, .int (nI 0)), (0, .ref tb)]) hx hb d_Ft_mappingsMade_3 rfl hl (by decide) rfl (fun ls hl => ?_)
  have loop_4 : ∀ (fu : Nat) (i : Nat) (md : Nat) (ls : Array Slot) (H : Heap) (locs : List Loc), (i ≤ n) → (mM fl i = md) → (md ≤ i) → (n - i) < fu → gm_P D cls A N M H → va_S A s.heap H locs → lv_has ls 4 [(0, .ref tb), (1, .int (nI md)), (2, .int (nI i))] → W p l e ({ frames := 1, cells := 0, slots := 0, locals := 23 }) s m ([.ref tb] : List Value).toArray below meth c H locs (0) (0) Q (F0 m 4 ls []) := by
    intro fu
    induction fu with
    | zero => intro i md ls H locs hi hmd hml2 hk; exact absurd hk (Nat.not_lt_zero _)
    | succ fu ih_4 =>
      intro i md ls H locs hi hmd hml2 hk hP hS hl
      refine lv_iload_n hx hb d_Ft_mappingsMade_4 rfl (lv_at hl 2 rfl) ?_
      refine lv_aload_n hx hb d_Ft_mappingsMade_5 rfl (lv_at hl 0 rfl) ?_
      refine gm_get (C := R_Ft) (T := F_Ft) (n := 2) hx hb htl i_Ft hown hK hP e1 rfl 1 (by decide) (htl _ k_159) (fun _ h => h) rfl d_Ft_mappingsMade_6 ?_
      refine ln_ge (tgt := 53) hx hb d_Ft_mappingsMade_9 (by decide) (by omega) (by omega) (fun c_1 => ?_) (fun c_1 => ?_)
      · skip
        refine lv_iload_n hx hb d_Ft_mappingsMade_53 rfl (lv_at hl 1 rfl) ?_
        rw [← hQ]
        exact gc_iret hx hb hr hlk hP hS d_Ft_mappingsMade_54 ⟨rfl, rfl, by rw [show n = i from (by omega), hmd]⟩
      · skip
        refine lv_aload_n hx hb d_Ft_mappingsMade_12 rfl (lv_at hl 0 rfl) ?_
        refine gm_get (C := R_Ft) (T := F_Ft) (n := 2) hx hb htl i_Ft hown hK hP e1 rfl 0 (by decide) (htl _ k_158) (fun _ h => h) rfl d_Ft_mappingsMade_13 ?_
        refine lv_iload_n hx hb d_Ft_mappingsMade_16 rfl (lv_at hl 2 rfl) ?_
        refine gn_aald hx hb hK hP 3 e2 rfl (by omega) (by omega) rfl d_Ft_mappingsMade_17 ?_
        refine lv_astore_n (lv' := [(3, .ref (fa i)), (0, .ref tb), (1, .int (nI md)), (2, .int (nI i))]) hx hb d_Ft_mappingsMade_18 rfl hl (by decide) rfl (fun ls hl => ?_)
        refine lv_aload_n hx hb d_Ft_mappingsMade_19 rfl (lv_at hl 0 rfl) ?_
        refine gm_get (C := R_Fl) (T := F_Fl) (n := 8) hx hb htl i_Fl hown hK hP (hf i (by omega)) rfl 3 (by decide) (htl _ k_134) (fun _ h => h) rfl d_Ft_mappingsMade_20 ?_
        have b_2 := hfb i 3
        refine lv_bipush (v := nI 100) hx hb d_Ft_mappingsMade_23 (by decide) ?_
        refine ln_lt (tgt := 47) hx hb d_Ft_mappingsMade_25 (by decide) (by omega) (by omega) (fun c_3 => ?_) (fun c_3 => ?_)
        · skip
          refine lv_iinc (v := nI (i + 1)) (lv' := [(2, .int (nI (i + 1))), (3, .ref (fa i)), (0, .ref tb), (1, .int (nI md))]) hx hb d_Ft_mappingsMade_47 hl (k := 3) rfl (nI_1 i) (by decide) rfl (fun ls hl => ?_)
          refine lv_goto (tgt := 4) hx hb d_Ft_mappingsMade_50 (by decide) ?_
          exact ih_4 (i + 1) md ls _ _ (by omega) (by rw [mM, if_neg (fun z => by omega)]; omega) (by omega) (by omega) hP hS (lv_sub hl [2, 3, 0] rfl)
        · skip
          refine lv_aload_n hx hb d_Ft_mappingsMade_28 rfl (lv_at hl 1 rfl) ?_
          refine lv_aload_n hx hb d_Ft_mappingsMade_29 rfl (lv_at hl 0 rfl) ?_
          refine gm_get (C := R_Fl) (T := F_Fl) (n := 8) hx hb htl i_Fl hown hK hP (hf i (by omega)) rfl 0 (by decide) (htl _ k_128) (fun _ h => h) rfl d_Ft_mappingsMade_30 ?_
          have b_4 := hfb i 0
          refine lv_aload_n hx hb d_Ft_mappingsMade_33 rfl (lv_at hl 0 rfl) ?_
          refine gm_get (C := R_Fl) (T := F_Fl) (n := 8) hx hb htl i_Fl hown hK hP (hf i (by omega)) rfl 3 (by decide) (htl _ k_134) (fun _ h => h) rfl d_Ft_mappingsMade_34 ?_
          have b_5 := hfb i 3
          refine gc_V (q := (R_Ft, F_Ft, 2)) (n := 2) [.int (nI (fl i 0)), .int (nI (fl i 3))] [] hx hb hml hown hts hK hN hX hP hS (c_Ft_findPort e1 e2 hf (by omega) hA hF (by omega) (by omega)) rfl e1 k_505 k_507 ks_Ft_findPort k_7 k_508 (by decide +kernel) ⟨by decide, by decide⟩ rfl hl.1 rfl (Nat.le_of_ble_eq_true rfl) d_Ft_mappingsMade_37 ⟨by decide, by decide⟩ (fun r N1 M_6 H locs hw hP hS => ?_)
          obtain ⟨rfl, hw⟩ := hw
          rcases hw with ⟨kv_7, c_8, c_9, c_10, rfl, rfl⟩ | ⟨c_11, rfl, rfl⟩
          · skip
            refine W.eq (g2 := F0 m 40 ls [.int (nI kv_7)]) rfl ?_
            refine lv_iload_n hx hb d_Ft_mappingsMade_40 rfl (lv_at hl 3 rfl) ?_
            refine ln_ne (tgt := 47) hx hb d_Ft_mappingsMade_41 (by decide) (by omega) (by omega) (fun c_12 => ?_) (fun c_12 => ?_)
            · skip
              refine lv_iinc (v := nI (i + 1)) (lv' := [(2, .int (nI (i + 1))), (3, .ref (fa i)), (0, .ref tb), (1, .int (nI md))]) hx hb d_Ft_mappingsMade_47 hl (k := 3) rfl (nI_1 i) (by decide) rfl (fun ls hl => ?_)
              refine lv_goto (tgt := 4) hx hb d_Ft_mappingsMade_50 (by decide) ?_
              exact ih_4 (i + 1) md ls _ _ (by omega) (by rw [mM, if_neg (fun z => fstM_iff.mp z.2 kv_7 (by rcases Nat.lt_trichotomy kv_7 i with q | q | q; exact q; exact absurd q c_12; exact absurd ⟨rfl, rfl⟩ (c_10 i q)) c_9)]; omega) (by omega) (by omega) hP hS (lv_sub hl [2, 3, 0] rfl)
            · skip
              refine lv_iinc (v := nI (md + 1)) (lv' := [(1, .int (nI (md + 1))), (3, .ref (fa i)), (0, .ref tb), (2, .int (nI i))]) hx hb d_Ft_mappingsMade_44 hl (k := 2) rfl (nI_1 md) (by decide) rfl (fun ls hl => ?_)
              refine lv_iinc (v := nI (i + 1)) (lv' := [(2, .int (nI (i + 1))), (1, .int (nI (md + 1))), (3, .ref (fa i)), (0, .ref tb)]) hx hb d_Ft_mappingsMade_47 hl (k := 3) rfl (nI_1 i) (by decide) rfl (fun ls hl => ?_)
              refine lv_goto (tgt := 4) hx hb d_Ft_mappingsMade_50 (by decide) ?_
              exact ih_4 (i + 1) (md + 1) ls _ _ (by omega) (by rw [mM, if_pos ⟨by omega, fstM_iff.mpr (fun j hj => c_10 j (by omega))⟩]; omega) (by omega) (by omega) hP hS (lv_sub hl [3, 1, 0] rfl)
          · skip
            refine W.eq (g2 := F0 m 40 ls [.int (-1)]) rfl ?_
            exact absurd ⟨rfl, rfl⟩ (c_11 i (by omega))
  exact loop_4 (_ + 1) 0 0 ls _ _ (Nat.zero_le _) rfl (Nat.le_refl _) (Nat.lt_succ_self _) hP hS (lv_sub hl [2, 1, 0] rfl)
set_option maxHeartbeats 4000000 in
set_option maxRecDepth 100000 in
theorem c_Ft_follow {tb rr n lo : Nat} {fa : Nat → Nat} {fl : Nat → Nat → Nat} {k b f tm : Nat} (e1 : M tb = some (.inr (3, [.ref rr, .int (nI n)]))) (e2 : M rr = some (.inl (ca 3, 16, .inr (.inr (.inr (.inr (oF fa))))))) (hf : ∀ fi, fi < 16 → M (fa fi) = some (.inr (2, [.int (nI (fl fi 0)), .int (nI (fl fi 1)), .int (nI (fl fi 2)), .int (nI (fl fi 3)), .int (nI (fl fi 4)), .int (nI (fl fi 5)), .int (nI (fl fi 6)), .int (nI (fl fi 7))]))) (hn : n ≤ 16) (hA : okA lo fa) (hF : okF fl) (hk : k < n) (hb0 : b ≤ 1) (hf0 : f < 65536) (htb : tm < 1000000) : gC l D ca A G y_Ft_follow (.code y_Ft_follow b_Ft_follow 5 (some .boolean)) ({ frames := 3, cells := 0, slots := 0, locals := 69 }) N M [.ref tb, .int (nI k), .int (nI b), .int (nI f), .int (nI tm)] gm_i (fun (r : Int32) (N1 : Nat) (M1 : gm_M) => N = N1 ∧ (((flS fl n k b f tm = none) ∧ M = M1 ∧ nI 0 = r) ∨ (∃ (fa1 : Nat → Nat) (fl1 : Nat → Nat → Nat) (n1 : Nat), (flS fl n k b f tm = some (fl1, n1)) ∧ (n1 ≤ n) ∧ (okA lo fa1) ∧ (okF fl1) ∧ M1 tb = some (.inr (3, [.ref rr, .int (nI n1)])) ∧ M1 rr = some (.inl (ca 3, 16, .inr (.inr (.inr (.inr (oF fa1)))))) ∧ (∀ fi, fi < 16 → M1 (fa1 fi) = some (.inr (2, [.int (nI (fl1 fi 0)), .int (nI (fl1 fi 1)), .int (nI (fl1 fi 2)), .int (nI (fl1 fi 3)), .int (nI (fl1 fi 4)), .int (nI (fl1 fi 5)), .int (nI (fl1 fi 6)), .int (nI (fl1 fi 7))]))) ∧ (∀ z, z ≠ tb → z ≠ rr → z ≠ (fa k) → M1 z = M z) ∧ nI 1 = r))) := by
  refine gm_body (by decide) (Nat.le_of_ble_eq_true rfl) (fun p e s m below meth c ls hx hb hr hts hown hlk hml hnm hP hK hN hX hS hl => ?_)
  have htl : ∀ w ∈ LW, w.before _ s = true := fun w h => hts w (List.mem_cons_of_mem _ h)
  have hown : s.vm.findClass "PacketGate$FlowTable" = some m.cls := hown
  have hl : lv_has ls 5 [(0, .ref tb), (1, .int (nI k)), (2, .int (nI b)), (3, .int (nI f)), (4, .int (nI tm))] := hl
  have hfb : ∀ i q, fl i q < 1000000 := fun i q => (hF i).1 q
  obtain ⟨_, hv1, _, _, hv4, hv6, hv7⟩ := hF k
  refine lv_aload_n hx hb d_Ft_follow_0 rfl (lv_at hl 0 rfl) ?_
  refine gm_get (C := R_Ft) (T := F_Ft) (n := 2) hx hb htl i_Ft hown hK hP e1 rfl 0 (by decide) (htl _ k_158) (fun _ h => h) rfl d_Ft_follow_1 ?_
  refine lv_iload_n hx hb d_Ft_follow_4 rfl (lv_at hl 1 rfl) ?_
  refine gn_aald hx hb hK hP 3 e2 rfl (by omega) (by omega) rfl d_Ft_follow_5 ?_
  refine lv_iload_n hx hb d_Ft_follow_6 rfl (lv_at hl 2 rfl) ?_
  refine lv_iload_n hx hb d_Ft_follow_7 rfl (lv_at hl 3 rfl) ?_
  refine lv_iload hx hb d_Ft_follow_8 (lv_at hl 4 rfl) ?_
  refine gc_V (q := (R_Fl, F_Fl, 8)) (n := 3) [.int (nI b), .int (nI f), .int (nI tm)] [] hx hb hml hown hts hK hN hX hP hS (c_Fl_follow (hf k (by omega)) (by omega) (by omega) (by omega) (by omega) (by omega) (by omega)) rfl (hf k (by omega)) k_579 k_580 k_581 k_8 k_582 (by decide +kernel) ⟨by decide, by decide⟩ rfl hl.1 rfl (Nat.le_of_ble_eq_true rfl) d_Ft_follow_10 ⟨by decide, by decide⟩ (fun r N1 M_1 H locs hw hP hS => ?_)
  obtain ⟨rfl, hw⟩ := hw
  rcases hw with ⟨c_2, rfl, rfl⟩ | ⟨kv_3, c_4, c_5, c_6, rfl, rfl⟩ | ⟨kv_7, c_8, c_9, c_10, rfl, rfl⟩
  · skip
    refine W.eq (g2 := F0 m 13 ls [.int (nI 0)]) rfl ?_
    refine lv_if_ne (tgt := 18) hx hb d_Ft_follow_13 (by decide) (fun q => absurd q (by decide)) (fun _ => ?_)
    refine lv_iconst (v := nI 0) hx hb d_Ft_follow_16 (by decide) ?_
    exact gc_zret hx hb hr hlk hP hS d_Ft_follow_17 rfl ⟨rfl, Or.inl ⟨by unfold flS; rw [c_2], rfl, rfl⟩⟩
  · skip
    have hP : gm_P D cls A N (gm_up M (fa k) (.inr (2, [.int (nI (fl k 0)), .int (nI (fl k 1)), .int (nI (fl k 2)), .int (nI (fl k 3)), .int (nI kv_3), .int (nI tm), .int (nI (fl k 6)), .int (nI b)]))) H := hP
    have h_11 := gm_pass (k := (fa k)) (y := .inr (2, [.int (nI (fl k 0)), .int (nI (fl k 1)), .int (nI (fl k 2)), .int (nI (fl k 3)), .int (nI kv_3), .int (nI tm), .int (nI (fl k 6)), .int (nI b)])) e1 (gm_ne e1 (hf k (by omega)) (fun h => by cases h))
    have h_12 := gm_pass (k := (fa k)) (y := .inr (2, [.int (nI (fl k 0)), .int (nI (fl k 1)), .int (nI (fl k 2)), .int (nI (fl k 3)), .int (nI kv_3), .int (nI tm), .int (nI (fl k 6)), .int (nI b)])) e2 (gm_ne e2 (hf k (by omega)) (fun h => by cases h))
    have h_13 := gm_up_self M (fa k) (.inr (2, [.int (nI (fl k 0)), .int (nI (fl k 1)), .int (nI (fl k 2)), .int (nI (fl k 3)), .int (nI kv_3), .int (nI tm), .int (nI (fl k 6)), .int (nI b)]))
    have hf_14 : ∀ fi, fi < 16 → (gm_up M (fa k) (.inr (2, [.int (nI (fl k 0)), .int (nI (fl k 1)), .int (nI (fl k 2)), .int (nI (fl k 3)), .int (nI kv_3), .int (nI tm), .int (nI (fl k 6)), .int (nI b)]))) (fa fi) = some (.inr (2, [.int (nI ((va_up fl k (frow (fl k) kv_3 tm b)) fi 0)), .int (nI ((va_up fl k (frow (fl k) kv_3 tm b)) fi 1)), .int (nI ((va_up fl k (frow (fl k) kv_3 tm b)) fi 2)), .int (nI ((va_up fl k (frow (fl k) kv_3 tm b)) fi 3)), .int (nI ((va_up fl k (frow (fl k) kv_3 tm b)) fi 4)), .int (nI ((va_up fl k (frow (fl k) kv_3 tm b)) fi 5)), .int (nI ((va_up fl k (frow (fl k) kv_3 tm b)) fi 6)), .int (nI ((va_up fl k (frow (fl k) kv_3 tm b)) fi 7))])) := fun fi hfi => by
      by_cases q : fi = k
      · subst q; rw [va_up_self]; exact gm_up_self _ _ _
      · rw [va_up_ne _ _ q]; exact (gm_pass (hf fi hfi) (fun z => q (hA.2 fi k hfi (by omega) z)))
    refine W.eq (g2 := F0 m 13 ls [.int (nI 1)]) rfl ?_
    refine lv_if_ne (tgt := 18) hx hb d_Ft_follow_13 (by decide) (fun _ => ?_) (fun q => absurd q (by decide))
    refine lv_aload_n hx hb d_Ft_follow_18 rfl (lv_at hl 0 rfl) ?_
    refine gm_get (C := R_Ft) (T := F_Ft) (n := 2) hx hb htl i_Ft hown hK hP h_11 rfl 0 (by decide) (htl _ k_158) (fun _ h => h) rfl d_Ft_follow_19 ?_
    refine lv_iload_n hx hb d_Ft_follow_22 rfl (lv_at hl 1 rfl) ?_
    refine gn_aald hx hb hK hP 3 h_12 rfl (by omega) (by omega) rfl d_Ft_follow_23 ?_
    refine gm_get (C := R_Fl) (T := F_Fl) (n := 8) hx hb htl i_Fl hown hK hP h_13 rfl 4 (by decide) (htl _ k_137) (fun _ h => h) rfl d_Ft_follow_24 ?_
    refine lz_ne (tgt := 35) hx hb d_Ft_follow_27 (by decide) (by omega) (fun c_15 => ?_) (fun c_15 => ?_)
    · skip
      refine lv_iconst (v := nI 1) hx hb d_Ft_follow_35 (by decide) ?_
      exact gc_zret hx hb hr hlk hP hS d_Ft_follow_36 rfl ⟨rfl, Or.inr ⟨fa, (va_up fl k (frow (fl k) kv_3 tm b)), n, (by unfold flS; rw [c_4]; show (if kv_3 = 0 then _ else _) = _; rw [if_neg c_15, if_pos c_6]), Nat.le_refl _, hA, (okF_up hF c_5 (by omega) (by omega)), h_11, h_12, hf_14, (fun z q0 q1 q2 => (gm_up_ne _ _ q2).trans (rfl)), rfl⟩⟩
    · skip
      refine lv_aload_n hx hb d_Ft_follow_30 rfl (lv_at hl 0 rfl) ?_
      refine lv_iload_n hx hb d_Ft_follow_31 rfl (lv_at hl 1 rfl) ?_
      refine gc_V (q := (R_Ft, F_Ft, 2)) (n := 1) [.int (nI k)] [] hx hb hml hown hts hK hN hX hP hS (c_Ft_remove h_11 h_12 hf_14 (by omega) hA (okF_up hF c_5 (by omega) (by omega)) (by omega)) rfl h_11 k_542 k_544 ks_Ft_remove k_7 k_545 (by decide +kernel) ⟨by decide, by decide⟩ rfl hl.1 rfl (Nat.le_of_ble_eq_true rfl) d_Ft_follow_32 ⟨by decide, by decide⟩ (fun r N1 M_16 H locs hw hP hS => ?_)
      obtain ⟨rfl, hw⟩ := hw
      obtain rfl := hw
      have h_17 := gm_pass (k := rr) (y := .inl (ca 3, 16, .inr (.inr (.inr (.inr (oF (rot fa k n))))))) h_11 (gm_ne h_11 h_12 (fun h => by cases h))
      have h_18 := gm_pass (k := rr) (y := .inl (ca 3, 16, .inr (.inr (.inr (.inr (oF (rot fa k n))))))) h_13 (gm_ne h_13 h_12 (fun h => by cases h))
      have h_19 := gm_up_self (gm_up M (fa k) (.inr (2, [.int (nI (fl k 0)), .int (nI (fl k 1)), .int (nI (fl k 2)), .int (nI (fl k 3)), .int (nI kv_3), .int (nI tm), .int (nI (fl k 6)), .int (nI b)]))) rr (.inl (ca 3, 16, .inr (.inr (.inr (.inr (oF (rot fa k n)))))))
      have hf_20 : ∀ fi, fi < 16 → (gm_up (gm_up M (fa k) (.inr (2, [.int (nI (fl k 0)), .int (nI (fl k 1)), .int (nI (fl k 2)), .int (nI (fl k 3)), .int (nI kv_3), .int (nI tm), .int (nI (fl k 6)), .int (nI b)]))) rr (.inl (ca 3, 16, .inr (.inr (.inr (.inr (oF (rot fa k n)))))))) (fa fi) = some (.inr (2, [.int (nI ((va_up fl k (frow (fl k) kv_3 tm b)) fi 0)), .int (nI ((va_up fl k (frow (fl k) kv_3 tm b)) fi 1)), .int (nI ((va_up fl k (frow (fl k) kv_3 tm b)) fi 2)), .int (nI ((va_up fl k (frow (fl k) kv_3 tm b)) fi 3)), .int (nI ((va_up fl k (frow (fl k) kv_3 tm b)) fi 4)), .int (nI ((va_up fl k (frow (fl k) kv_3 tm b)) fi 5)), .int (nI ((va_up fl k (frow (fl k) kv_3 tm b)) fi 6)), .int (nI ((va_up fl k (frow (fl k) kv_3 tm b)) fi 7))])) := fun fi hfi => gm_pass (k := rr) (y := .inl (ca 3, 16, .inr (.inr (.inr (.inr (oF (rot fa k n))))))) (hf_14 fi hfi) (gm_ne (hf_14 fi hfi) h_12 (fun h => by cases h))
      have hP : gm_P D cls A N (gm_up (gm_up (gm_up M (fa k) (.inr (2, [.int (nI (fl k 0)), .int (nI (fl k 1)), .int (nI (fl k 2)), .int (nI (fl k 3)), .int (nI kv_3), .int (nI tm), .int (nI (fl k 6)), .int (nI b)]))) rr (.inl (ca 3, 16, .inr (.inr (.inr (.inr (oF (rot fa k n)))))))) tb (.inr (3, [.ref rr, .int (nI (n - 1))]))) H := hP
      have h_21 := gm_pass (k := tb) (y := .inr (3, [.ref rr, .int (nI (n - 1))])) h_18 (gm_ne h_18 h_17 (fun h => by cases h))
      have h_22 := gm_pass (k := tb) (y := .inr (3, [.ref rr, .int (nI (n - 1))])) h_19 (gm_ne h_19 h_17 (fun h => by cases h))
      have h_23 := gm_up_self (gm_up (gm_up M (fa k) (.inr (2, [.int (nI (fl k 0)), .int (nI (fl k 1)), .int (nI (fl k 2)), .int (nI (fl k 3)), .int (nI kv_3), .int (nI tm), .int (nI (fl k 6)), .int (nI b)]))) rr (.inl (ca 3, 16, .inr (.inr (.inr (.inr (oF (rot fa k n)))))))) tb (.inr (3, [.ref rr, .int (nI (n - 1))]))
      have hf_24 : ∀ fi, fi < 16 → (gm_up (gm_up (gm_up M (fa k) (.inr (2, [.int (nI (fl k 0)), .int (nI (fl k 1)), .int (nI (fl k 2)), .int (nI (fl k 3)), .int (nI kv_3), .int (nI tm), .int (nI (fl k 6)), .int (nI b)]))) rr (.inl (ca 3, 16, .inr (.inr (.inr (.inr (oF (rot fa k n)))))))) tb (.inr (3, [.ref rr, .int (nI (n - 1))]))) (fa fi) = some (.inr (2, [.int (nI ((va_up fl k (frow (fl k) kv_3 tm b)) fi 0)), .int (nI ((va_up fl k (frow (fl k) kv_3 tm b)) fi 1)), .int (nI ((va_up fl k (frow (fl k) kv_3 tm b)) fi 2)), .int (nI ((va_up fl k (frow (fl k) kv_3 tm b)) fi 3)), .int (nI ((va_up fl k (frow (fl k) kv_3 tm b)) fi 4)), .int (nI ((va_up fl k (frow (fl k) kv_3 tm b)) fi 5)), .int (nI ((va_up fl k (frow (fl k) kv_3 tm b)) fi 6)), .int (nI ((va_up fl k (frow (fl k) kv_3 tm b)) fi 7))])) := fun fi hfi => gm_pass (k := tb) (y := .inr (3, [.ref rr, .int (nI (n - 1))])) (hf_20 fi hfi) (gm_ne (hf_20 fi hfi) h_17 (fun h => by cases h))
      refine W.eq (g2 := F0 m 35 ls []) rfl ?_
      refine lv_iconst (v := nI 1) hx hb d_Ft_follow_35 (by decide) ?_
      exact gc_zret hx hb hr hlk hP hS d_Ft_follow_36 rfl ⟨rfl, Or.inr ⟨rot fa k n, rot (va_up fl k (frow (fl k) kv_3 tm b)) k n, n - 1, (by unfold flS; rw [c_4]; show (if kv_3 = 0 then _ else _) = _; rw [if_pos c_15, if_pos c_6]), by omega, okA_rot hA hk hn, okF_rot (okF_up hF c_5 (by omega) (by omega)), h_23, h_22, (fam_rot hf_24 hk hn), (fun z q0 q1 q2 => (gm_up_ne _ _ q0).trans ((gm_up_ne _ _ q1).trans ((gm_up_ne _ _ q2).trans (rfl)))), rfl⟩⟩
  · skip
    have hP : gm_P D cls A N (gm_up M (fa k) (.inr (2, [.int (nI (fl k 0)), .int (nI (fl k 1)), .int (nI (fl k 2)), .int (nI (fl k 3)), .int (nI kv_7), .int (nI tm), .int (nI (fl k 6)), .int (nI (fl k 7))]))) H := hP
    have h_25 := gm_pass (k := (fa k)) (y := .inr (2, [.int (nI (fl k 0)), .int (nI (fl k 1)), .int (nI (fl k 2)), .int (nI (fl k 3)), .int (nI kv_7), .int (nI tm), .int (nI (fl k 6)), .int (nI (fl k 7))])) e1 (gm_ne e1 (hf k (by omega)) (fun h => by cases h))
    have h_26 := gm_pass (k := (fa k)) (y := .inr (2, [.int (nI (fl k 0)), .int (nI (fl k 1)), .int (nI (fl k 2)), .int (nI (fl k 3)), .int (nI kv_7), .int (nI tm), .int (nI (fl k 6)), .int (nI (fl k 7))])) e2 (gm_ne e2 (hf k (by omega)) (fun h => by cases h))
    have h_27 := gm_up_self M (fa k) (.inr (2, [.int (nI (fl k 0)), .int (nI (fl k 1)), .int (nI (fl k 2)), .int (nI (fl k 3)), .int (nI kv_7), .int (nI tm), .int (nI (fl k 6)), .int (nI (fl k 7))]))
    have hf_28 : ∀ fi, fi < 16 → (gm_up M (fa k) (.inr (2, [.int (nI (fl k 0)), .int (nI (fl k 1)), .int (nI (fl k 2)), .int (nI (fl k 3)), .int (nI kv_7), .int (nI tm), .int (nI (fl k 6)), .int (nI (fl k 7))]))) (fa fi) = some (.inr (2, [.int (nI ((va_up fl k (frow (fl k) kv_7 tm (fl k 7))) fi 0)), .int (nI ((va_up fl k (frow (fl k) kv_7 tm (fl k 7))) fi 1)), .int (nI ((va_up fl k (frow (fl k) kv_7 tm (fl k 7))) fi 2)), .int (nI ((va_up fl k (frow (fl k) kv_7 tm (fl k 7))) fi 3)), .int (nI ((va_up fl k (frow (fl k) kv_7 tm (fl k 7))) fi 4)), .int (nI ((va_up fl k (frow (fl k) kv_7 tm (fl k 7))) fi 5)), .int (nI ((va_up fl k (frow (fl k) kv_7 tm (fl k 7))) fi 6)), .int (nI ((va_up fl k (frow (fl k) kv_7 tm (fl k 7))) fi 7))])) := fun fi hfi => by
      by_cases q : fi = k
      · subst q; rw [va_up_self]; exact gm_up_self _ _ _
      · rw [va_up_ne _ _ q]; exact (gm_pass (hf fi hfi) (fun z => q (hA.2 fi k hfi (by omega) z)))
    refine W.eq (g2 := F0 m 13 ls [.int (nI 1)]) rfl ?_
    refine lv_if_ne (tgt := 18) hx hb d_Ft_follow_13 (by decide) (fun _ => ?_) (fun q => absurd q (by decide))
    refine lv_aload_n hx hb d_Ft_follow_18 rfl (lv_at hl 0 rfl) ?_
    refine gm_get (C := R_Ft) (T := F_Ft) (n := 2) hx hb htl i_Ft hown hK hP h_25 rfl 0 (by decide) (htl _ k_158) (fun _ h => h) rfl d_Ft_follow_19 ?_
    refine lv_iload_n hx hb d_Ft_follow_22 rfl (lv_at hl 1 rfl) ?_
    refine gn_aald hx hb hK hP 3 h_26 rfl (by omega) (by omega) rfl d_Ft_follow_23 ?_
    refine gm_get (C := R_Fl) (T := F_Fl) (n := 8) hx hb htl i_Fl hown hK hP h_27 rfl 4 (by decide) (htl _ k_137) (fun _ h => h) rfl d_Ft_follow_24 ?_
    refine lz_ne (tgt := 35) hx hb d_Ft_follow_27 (by decide) (by omega) (fun c_29 => ?_) (fun c_29 => ?_)
    · skip
      refine lv_iconst (v := nI 1) hx hb d_Ft_follow_35 (by decide) ?_
      exact gc_zret hx hb hr hlk hP hS d_Ft_follow_36 rfl ⟨rfl, Or.inr ⟨fa, (va_up fl k (frow (fl k) kv_7 tm (fl k 7))), n, (by unfold flS; rw [c_8]; show (if kv_7 = 0 then _ else _) = _; rw [if_neg c_29, if_neg c_10]), Nat.le_refl _, hA, (okF_up hF c_9 (by omega) (by omega)), h_25, h_26, hf_28, (fun z q0 q1 q2 => (gm_up_ne _ _ q2).trans (rfl)), rfl⟩⟩
    · skip
      refine lv_aload_n hx hb d_Ft_follow_30 rfl (lv_at hl 0 rfl) ?_
      refine lv_iload_n hx hb d_Ft_follow_31 rfl (lv_at hl 1 rfl) ?_
      refine gc_V (q := (R_Ft, F_Ft, 2)) (n := 1) [.int (nI k)] [] hx hb hml hown hts hK hN hX hP hS (c_Ft_remove h_25 h_26 hf_28 (by omega) hA (okF_up hF c_9 (by omega) (by omega)) (by omega)) rfl h_25 k_542 k_544 ks_Ft_remove k_7 k_545 (by decide +kernel) ⟨by decide, by decide⟩ rfl hl.1 rfl (Nat.le_of_ble_eq_true rfl) d_Ft_follow_32 ⟨by decide, by decide⟩ (fun r N1 M_30 H locs hw hP hS => ?_)
      obtain ⟨rfl, hw⟩ := hw
      obtain rfl := hw
      have h_31 := gm_pass (k := rr) (y := .inl (ca 3, 16, .inr (.inr (.inr (.inr (oF (rot fa k n))))))) h_25 (gm_ne h_25 h_26 (fun h => by cases h))
      have h_32 := gm_pass (k := rr) (y := .inl (ca 3, 16, .inr (.inr (.inr (.inr (oF (rot fa k n))))))) h_27 (gm_ne h_27 h_26 (fun h => by cases h))
      have h_33 := gm_up_self (gm_up M (fa k) (.inr (2, [.int (nI (fl k 0)), .int (nI (fl k 1)), .int (nI (fl k 2)), .int (nI (fl k 3)), .int (nI kv_7), .int (nI tm), .int (nI (fl k 6)), .int (nI (fl k 7))]))) rr (.inl (ca 3, 16, .inr (.inr (.inr (.inr (oF (rot fa k n)))))))
      have hf_34 : ∀ fi, fi < 16 → (gm_up (gm_up M (fa k) (.inr (2, [.int (nI (fl k 0)), .int (nI (fl k 1)), .int (nI (fl k 2)), .int (nI (fl k 3)), .int (nI kv_7), .int (nI tm), .int (nI (fl k 6)), .int (nI (fl k 7))]))) rr (.inl (ca 3, 16, .inr (.inr (.inr (.inr (oF (rot fa k n)))))))) (fa fi) = some (.inr (2, [.int (nI ((va_up fl k (frow (fl k) kv_7 tm (fl k 7))) fi 0)), .int (nI ((va_up fl k (frow (fl k) kv_7 tm (fl k 7))) fi 1)), .int (nI ((va_up fl k (frow (fl k) kv_7 tm (fl k 7))) fi 2)), .int (nI ((va_up fl k (frow (fl k) kv_7 tm (fl k 7))) fi 3)), .int (nI ((va_up fl k (frow (fl k) kv_7 tm (fl k 7))) fi 4)), .int (nI ((va_up fl k (frow (fl k) kv_7 tm (fl k 7))) fi 5)), .int (nI ((va_up fl k (frow (fl k) kv_7 tm (fl k 7))) fi 6)), .int (nI ((va_up fl k (frow (fl k) kv_7 tm (fl k 7))) fi 7))])) := fun fi hfi => gm_pass (k := rr) (y := .inl (ca 3, 16, .inr (.inr (.inr (.inr (oF (rot fa k n))))))) (hf_28 fi hfi) (gm_ne (hf_28 fi hfi) h_26 (fun h => by cases h))
      have hP : gm_P D cls A N (gm_up (gm_up (gm_up M (fa k) (.inr (2, [.int (nI (fl k 0)), .int (nI (fl k 1)), .int (nI (fl k 2)), .int (nI (fl k 3)), .int (nI kv_7), .int (nI tm), .int (nI (fl k 6)), .int (nI (fl k 7))]))) rr (.inl (ca 3, 16, .inr (.inr (.inr (.inr (oF (rot fa k n)))))))) tb (.inr (3, [.ref rr, .int (nI (n - 1))]))) H := hP
      have h_35 := gm_pass (k := tb) (y := .inr (3, [.ref rr, .int (nI (n - 1))])) h_32 (gm_ne h_32 h_31 (fun h => by cases h))
      have h_36 := gm_pass (k := tb) (y := .inr (3, [.ref rr, .int (nI (n - 1))])) h_33 (gm_ne h_33 h_31 (fun h => by cases h))
      have h_37 := gm_up_self (gm_up (gm_up M (fa k) (.inr (2, [.int (nI (fl k 0)), .int (nI (fl k 1)), .int (nI (fl k 2)), .int (nI (fl k 3)), .int (nI kv_7), .int (nI tm), .int (nI (fl k 6)), .int (nI (fl k 7))]))) rr (.inl (ca 3, 16, .inr (.inr (.inr (.inr (oF (rot fa k n)))))))) tb (.inr (3, [.ref rr, .int (nI (n - 1))]))
      have hf_38 : ∀ fi, fi < 16 → (gm_up (gm_up (gm_up M (fa k) (.inr (2, [.int (nI (fl k 0)), .int (nI (fl k 1)), .int (nI (fl k 2)), .int (nI (fl k 3)), .int (nI kv_7), .int (nI tm), .int (nI (fl k 6)), .int (nI (fl k 7))]))) rr (.inl (ca 3, 16, .inr (.inr (.inr (.inr (oF (rot fa k n)))))))) tb (.inr (3, [.ref rr, .int (nI (n - 1))]))) (fa fi) = some (.inr (2, [.int (nI ((va_up fl k (frow (fl k) kv_7 tm (fl k 7))) fi 0)), .int (nI ((va_up fl k (frow (fl k) kv_7 tm (fl k 7))) fi 1)), .int (nI ((va_up fl k (frow (fl k) kv_7 tm (fl k 7))) fi 2)), .int (nI ((va_up fl k (frow (fl k) kv_7 tm (fl k 7))) fi 3)), .int (nI ((va_up fl k (frow (fl k) kv_7 tm (fl k 7))) fi 4)), .int (nI ((va_up fl k (frow (fl k) kv_7 tm (fl k 7))) fi 5)), .int (nI ((va_up fl k (frow (fl k) kv_7 tm (fl k 7))) fi 6)), .int (nI ((va_up fl k (frow (fl k) kv_7 tm (fl k 7))) fi 7))])) := fun fi hfi => gm_pass (k := tb) (y := .inr (3, [.ref rr, .int (nI (n - 1))])) (hf_34 fi hfi) (gm_ne (hf_34 fi hfi) h_31 (fun h => by cases h))
      refine W.eq (g2 := F0 m 35 ls []) rfl ?_
      refine lv_iconst (v := nI 1) hx hb d_Ft_follow_35 (by decide) ?_
      exact gc_zret hx hb hr hlk hP hS d_Ft_follow_36 rfl ⟨rfl, Or.inr ⟨rot fa k n, rot (va_up fl k (frow (fl k) kv_7 tm (fl k 7))) k n, n - 1, (by unfold flS; rw [c_8]; show (if kv_7 = 0 then _ else _) = _; rw [if_pos c_29, if_neg c_10]), by omega, okA_rot hA hk hn, okF_rot (okF_up hF c_9 (by omega) (by omega)), h_37, h_36, (fam_rot hf_38 hk hn), (fun z q0 q1 q2 => (gm_up_ne _ _ q0).trans ((gm_up_ne _ _ q1).trans ((gm_up_ne _ _ q2).trans (rfl)))), rfl⟩⟩
end C15
