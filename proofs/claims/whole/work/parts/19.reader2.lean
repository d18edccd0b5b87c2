section C19
variable {l : Launch} {D : va_G} {ca : Nat → ClassId} {A : Nat → Prop} {G : gG} {N : Nat} {M : gm_M}

/-- the place where the letters fail -/
def letB (t : List Nat) (p : Nat) : Option Nat := if lix 1 (t.getD p 32) = none then some p else if lix 2 (t.getD (p + 1) 32) = none then some (p + 1) else if lix 3 (t.getD (p + 1 + 1) 32) = none then some (p + 1 + 1) else none
theorem lix_lt {j c k : Nat} (h : lix j c = some k) : k < tx_l.getD j 0 := by
  have key : ∀ (r k0 : Nat), lixR j c r k0 = some k → k < k0 + r := by
    intro r
    induction r with
    | zero => intro k0 h; cases h
    | succ r ih =>
      intro k0 h
      rw [lixR] at h
      split at h
      · cases h; omega
      · have := ih (k0 + 1) h; omega
  have := key _ 0 h
  omega
theorem letB_prs {t : List Nat} {p : Nat} (h : letB t 0 = some p) : prs t = (none, p) := by
  unfold letB at h
  split at h
  · cases h; simp only [prs, *]
  · rename_i q0
    split at h
    · cases h; obtain ⟨k0, e0⟩ := Option.ne_none_iff_exists'.mp q0; simp only [prs, *]
    · rename_i q1
      split at h
      · cases h; obtain ⟨k0, e0⟩ := Option.ne_none_iff_exists'.mp q0; obtain ⟨k1, e1⟩ := Option.ne_none_iff_exists'.mp q1; simp only [prs, *]
      · cases h
theorem prs_r1 {t : List Nat} {k0 k1 k2 p : Nat} (h0 : lix 1 (t.getD 0 32) = some k0) (h1 : lix 2 (t.getD 1 32) = some k1) (h2 : lix 3 (t.getD 2 32) = some k2) (r1 : rrg t 3 = (none, p)) : prs t = (none, p) := by simp only [prs, h0, h1, h2, r1, not_true_eq_false, not_false_eq_true, if_true, if_false, ↓reduceIte]
theorem prs_c1 {t : List Nat} {k0 k1 k2 a1 b1 p1 : Nat} (h0 : lix 1 (t.getD 0 32) = some k0) (h1 : lix 2 (t.getD 1 32) = some k1) (h2 : lix 3 (t.getD 2 32) = some k2) (r1 : rrg t 3 = (some (a1, b1), p1)) (c1 : ¬ t.getD p1 32 = 44) : prs t = (none, p1) := by simp only [prs, h0, h1, h2, r1, c1, not_true_eq_false, not_false_eq_true, if_true, if_false, ↓reduceIte]
theorem prs_r2 {t : List Nat} {k0 k1 k2 a1 b1 p1 p : Nat} (h0 : lix 1 (t.getD 0 32) = some k0) (h1 : lix 2 (t.getD 1 32) = some k1) (h2 : lix 3 (t.getD 2 32) = some k2) (r1 : rrg t 3 = (some (a1, b1), p1)) (c1 : t.getD p1 32 = 44) (r2 : rrg t (p1 + 1) = (none, p)) : prs t = (none, p) := by simp only [prs, h0, h1, h2, r1, c1, r2, not_true_eq_false, not_false_eq_true, if_true, if_false, ↓reduceIte]
theorem prs_c2 {t : List Nat} {k0 k1 k2 a1 b1 p1 a2 b2 p2 : Nat} (h0 : lix 1 (t.getD 0 32) = some k0) (h1 : lix 2 (t.getD 1 32) = some k1) (h2 : lix 3 (t.getD 2 32) = some k2) (r1 : rrg t 3 = (some (a1, b1), p1)) (c1 : t.getD p1 32 = 44) (r2 : rrg t (p1 + 1) = (some (a2, b2), p2)) (c2 : ¬ t.getD p2 32 = 44) : prs t = (none, p2) := by simp only [prs, h0, h1, h2, r1, c1, r2, c2, not_true_eq_false, not_false_eq_true, if_true, if_false, ↓reduceIte]
theorem prs_r3 {t : List Nat} {k0 k1 k2 a1 b1 p1 a2 b2 p2 p : Nat} (h0 : lix 1 (t.getD 0 32) = some k0) (h1 : lix 2 (t.getD 1 32) = some k1) (h2 : lix 3 (t.getD 2 32) = some k2) (r1 : rrg t 3 = (some (a1, b1), p1)) (c1 : t.getD p1 32 = 44) (r2 : rrg t (p1 + 1) = (some (a2, b2), p2)) (c2 : t.getD p2 32 = 44) (r3 : rrg t (p2 + 1) = (none, p)) : prs t = (none, p) := by simp only [prs, h0, h1, h2, r1, c1, r2, c2, r3, not_true_eq_false, not_false_eq_true, if_true, if_false, ↓reduceIte]
theorem prs_e {t : List Nat} {k0 k1 k2 a1 b1 p1 a2 b2 p2 a3 b3 p3 : Nat} (h0 : lix 1 (t.getD 0 32) = some k0) (h1 : lix 2 (t.getD 1 32) = some k1) (h2 : lix 3 (t.getD 2 32) = some k2) (r1 : rrg t 3 = (some (a1, b1), p1)) (c1 : t.getD p1 32 = 44) (r2 : rrg t (p1 + 1) = (some (a2, b2), p2)) (c2 : t.getD p2 32 = 44) (r3 : rrg t (p2 + 1) = (some (a3, b3), p3)) (q : ¬ p3 = t.length) : prs t = (none, p3) := by simp only [prs, h0, h1, h2, r1, c1, r2, c2, r3, q, not_true_eq_false, not_false_eq_true, if_true, if_false, ↓reduceIte]
theorem prs_ok {t : List Nat} {k0 k1 k2 a1 b1 p1 a2 b2 p2 a3 b3 p3 : Nat} (h0 : lix 1 (t.getD 0 32) = some k0) (h1 : lix 2 (t.getD 1 32) = some k1) (h2 : lix 3 (t.getD 2 32) = some k2) (r1 : rrg t 3 = (some (a1, b1), p1)) (c1 : t.getD p1 32 = 44) (r2 : rrg t (p1 + 1) = (some (a2, b2), p2)) (c2 : t.getD p2 32 = 44) (r3 : rrg t (p2 + 1) = (some (a3, b3), p3)) (q : p3 = t.length) : prs t = (some [k0, k1, k2, a1, a2, a3, b1, b2, b3], p3) := by simp only [prs, h0, h1, h2, r1, c1, r2, c2, r3, q, not_true_eq_false, not_false_eq_true, if_true, if_false, ↓reduceIte]
set_option maxHeartbeats 4000000 in
set_option maxRecDepth 100000 in
theorem c_Rr_readRange {y z q p0 : Nat} {t : List Nat} {f : Nat → Int32} {x u v : Nat} {a0 a1 a2 : Int32} {lw hw : Nat → Nat} {wh : Nat} (e1 : M y = some (.inr (7, [.int (nI p0)]))) (e2 : M z = some (.inr (4, [.ref q, .int (nI t.length)]))) (e3 : M q = some (.inl (ca 1, 40, .inl f))) (e4 : M x = some (.inr (5, [.int a0, .int a1, .int a2, .ref u, .ref v]))) (e5 : M u = some (.inl (ca 0, 3, .inl (iN lw)))) (e6 : M v = some (.inl (ca 0, 3, .inl (iN hw)))) (ht : t.length ≤ 40) (htx : txt f t) (hcs : ∀ c ∈ t, c < 256) (hp0 : p0 ≤ 100) (huv : u ≠ v) (hlw : ∀ q, lw q ≤ 255) (hhw : ∀ q, hw q ≤ 255) (hwh : wh < 3) (hp1 : p0 ≤ 80) : gC l D ca A G y_Rr_readRange (.code y_Rr_readRange b_Rr_readRange 6 (some .boolean)) ({ frames := 3, cells := 0, slots := 0, locals := 70 }) N M [.ref y, .ref z, .ref x, .int (nI wh)] gm_i (fun (r : Int32) (N1 : Nat) (M1 : gm_M) => N = N1 ∧ ((∃ (a : Nat) (b : Nat) (p1 : Nat), (rrg t p0 = (some (a, b), p1)) ∧ (a ≤ 255 ∧ b ≤ 255) ∧ (p1 ≤ p0 + 9) ∧ gm_up (gm_up (gm_up M y (.inr (7, [.int (nI p1)]))) u (.inl (ca 0, 3, .inl (iN (va_up lw wh a))))) v (.inl (ca 0, 3, .inl (iN (va_up hw wh b)))) = M1 ∧ nI 1 = r) ∨ (∃ (p1 : Nat), (rrg t p0 = (none, p1)) ∧ (p1 ≤ p0 + 9) ∧ gm_up M y (.inr (7, [.int (nI p1)])) = M1 ∧ nI 0 = r))) := by
  refine gm_body (by decide) (Nat.le_of_ble_eq_true rfl) (fun p e s m below meth c ls hx hb hr hts hown hlk hml hnm hP hK hN hX hS hl => ?_)
  have htl : ∀ w ∈ LW, w.before _ s = true := fun w h => hts w (List.mem_cons_of_mem _ h)
  have hown : s.vm.findClass "PacketGate$RuleReader" = some m.cls := hown
  have hl : lv_has ls 6 [(0, .ref y), (1, .ref z), (2, .ref x), (3, .int (nI wh))] := hl
  refine lv_aload_n hx hb d_Rr_readRange_0 rfl (lv_at hl 0 rfl) ?_
  refine lv_aload_n hx hb d_Rr_readRange_1 rfl (lv_at hl 1 rfl) ?_
  refine lv_bipush (v := nI 42) hx hb d_Rr_readRange_2 (by decide) ?_
  refine gc_V (q := (R_Rr, F_Rr, 1)) (n := 2) [.ref z, .int (nI 42)] [] hx hb hml hown hts hK hN hX hP hS (c_Rr_readMark e1 e2 e3 (by omega) htx hcs (by omega) (by omega)) rfl e1 k_390 k_392 ks_Rr_readMark k_3 k_393 (by decide +kernel) ⟨by decide, by decide⟩ rfl hl.1 rfl (Nat.le_of_ble_eq_true rfl) d_Rr_readRange_4 ⟨by decide, by decide⟩ (fun r N1 M_1 H locs hw hP hS => ?_)
  obtain ⟨rfl, hw⟩ := hw
  rcases hw with ⟨c_2, rfl, rfl⟩ | ⟨c_3, rfl, rfl⟩
  · skip
    have hP : gm_P D cls A N (gm_up M y (.inr (7, [.int (nI (p0 + 1))]))) H := hP
    have h_4 := gm_pass (k := y) (y := .inr (7, [.int (nI (p0 + 1))])) e2 (gm_ne e2 e1 (fun h => by cases h))
    have h_5 := gm_pass (k := y) (y := .inr (7, [.int (nI (p0 + 1))])) e3 (gm_ne e3 e1 (fun h => by cases h))
    have h_6 := gm_pass (k := y) (y := .inr (7, [.int (nI (p0 + 1))])) e4 (gm_ne e4 e1 (fun h => by cases h))
    have h_7 := gm_pass (k := y) (y := .inr (7, [.int (nI (p0 + 1))])) e5 (gm_ne e5 e1 (fun h => by cases h))
    have h_8 := gm_pass (k := y) (y := .inr (7, [.int (nI (p0 + 1))])) e6 (gm_ne e6 e1 (fun h => by cases h))
    have h_9 := gm_up_self M y (.inr (7, [.int (nI (p0 + 1))]))
    refine W.eq (g2 := F0 m 7 ls [.int (nI 1)]) rfl ?_
    refine lv_if_eq (tgt := 21) hx hb d_Rr_readRange_7 (by decide) (fun q => absurd q (by decide)) (fun _ => ?_)
    refine lv_aload_n hx hb d_Rr_readRange_10 rfl (lv_at hl 2 rfl) ?_
    refine lv_iload_n hx hb d_Rr_readRange_11 rfl (lv_at hl 3 rfl) ?_
    refine lv_iconst (v := nI 0) hx hb d_Rr_readRange_12 (by decide) ?_
    refine lv_sipush (v := nI 255) hx hb d_Rr_readRange_13 (by decide) ?_
    refine gc_V (q := (R_Ru, F_Ru, 5)) (n := 3) [.int (nI wh), .int (nI 0), .int (nI 255)] [] hx hb hml hown hts hK hN hX hP hS (c_Ru_setRange h_6 h_7 h_8 huv (by omega)) rfl h_6 k_394 k_395 k_396 k_5 k_397 (by decide +kernel) ⟨by decide, by decide⟩ rfl hl.1 rfl (Nat.le_of_ble_eq_true rfl) d_Rr_readRange_16 ⟨by decide, by decide⟩ (fun r N1 M_10 H locs hw hP hS => ?_)
    obtain ⟨rfl, hw⟩ := hw
    obtain rfl := hw
    have h_11 := gm_pass (k := u) (y := .inl (ca 0, 3, .inl (iN (va_up lw wh 0)))) h_4 (gm_ne h_4 h_7 (fun h => by cases h))
    have h_12 := gm_pass (k := u) (y := .inl (ca 0, 3, .inl (iN (va_up lw wh 0)))) h_5 (gm_ne h_5 h_7 (fun h => by simp at h))
    have h_13 := gm_pass (k := u) (y := .inl (ca 0, 3, .inl (iN (va_up lw wh 0)))) h_6 (gm_ne h_6 h_7 (fun h => by cases h))
    have h_14 := gm_pass (k := u) (y := .inl (ca 0, 3, .inl (iN (va_up lw wh 0)))) h_8 (Ne.symm huv)
    have h_15 := gm_pass (k := u) (y := .inl (ca 0, 3, .inl (iN (va_up lw wh 0)))) h_9 (gm_ne h_9 h_7 (fun h => by cases h))
    have h_16 := gm_up_self (gm_up M y (.inr (7, [.int (nI (p0 + 1))]))) u (.inl (ca 0, 3, .inl (iN (va_up lw wh 0))))
    have hP : gm_P D cls A N (gm_up (gm_up (gm_up M y (.inr (7, [.int (nI (p0 + 1))]))) u (.inl (ca 0, 3, .inl (iN (va_up lw wh 0))))) v (.inl (ca 0, 3, .inl (iN (va_up hw wh 255))))) H := hP
    have h_17 := gm_pass (k := v) (y := .inl (ca 0, 3, .inl (iN (va_up hw wh 255)))) h_11 (gm_ne h_11 h_14 (fun h => by cases h))
    have h_18 := gm_pass (k := v) (y := .inl (ca 0, 3, .inl (iN (va_up hw wh 255)))) h_12 (gm_ne h_12 h_14 (fun h => by simp at h))
    have h_19 := gm_pass (k := v) (y := .inl (ca 0, 3, .inl (iN (va_up hw wh 255)))) h_13 (gm_ne h_13 h_14 (fun h => by cases h))
    have h_20 := gm_pass (k := v) (y := .inl (ca 0, 3, .inl (iN (va_up hw wh 255)))) h_15 (gm_ne h_15 h_14 (fun h => by cases h))
    have h_21 := gm_pass (k := v) (y := .inl (ca 0, 3, .inl (iN (va_up hw wh 255)))) h_16 huv
    have h_22 := gm_up_self (gm_up (gm_up M y (.inr (7, [.int (nI (p0 + 1))]))) u (.inl (ca 0, 3, .inl (iN (va_up lw wh 0))))) v (.inl (ca 0, 3, .inl (iN (va_up hw wh 255))))
    refine W.eq (g2 := F0 m 19 ls []) rfl ?_
    refine lv_iconst (v := nI 1) hx hb d_Rr_readRange_19 (by decide) ?_
    exact gc_zret hx hb hr hlk hP hS d_Rr_readRange_20 rfl ⟨rfl, Or.inl ⟨0, 255, p0 + 1, rrg_star c_2, ⟨by omega, by omega⟩, (by omega), rfl, rfl⟩⟩
  · skip
    refine W.eq (g2 := F0 m 7 ls [.int (nI 0)]) rfl ?_
    refine lv_if_eq (tgt := 21) hx hb d_Rr_readRange_7 (by decide) (fun _ => ?_) (fun q => absurd q (by decide))
    refine lv_aload_n hx hb d_Rr_readRange_21 rfl (lv_at hl 0 rfl) ?_
    refine lv_aload_n hx hb d_Rr_readRange_22 rfl (lv_at hl 1 rfl) ?_
    refine lv_iconst (v := nI 0) hx hb d_Rr_readRange_23 (by decide) ?_
    refine gc_V (q := (R_Rr, F_Rr, 1)) (n := 2) [.ref z, .int (nI 0)] [] hx hb hml hown hts hK hN hX hP hS (c_Rr_readNumber e1 e2 e3 (by omega) htx hcs (by omega) (by omega)) rfl e1 k_398 k_400 ks_Rr_readNumber k_3 k_401 (by decide +kernel) ⟨by decide, by decide⟩ rfl hl.1 rfl (Nat.le_of_ble_eq_true rfl) d_Rr_readRange_24 ⟨by decide, by decide⟩ (fun r N1 M_23 H locs hw hP hS => ?_)
    obtain ⟨rfl, hw⟩ := hw
    rcases hw with ⟨vv_24, p1v_25, c_26, c_27, c_28, rfl, rfl⟩ | ⟨p1v_29, c_30, c_31, rfl, rfl⟩
    · skip
      have hP : gm_P D cls A N (gm_up M y (.inr (7, [.int (nI p1v_25)]))) H := hP
      have h_32 := gm_pass (k := y) (y := .inr (7, [.int (nI p1v_25)])) e2 (gm_ne e2 e1 (fun h => by cases h))
      have h_33 := gm_pass (k := y) (y := .inr (7, [.int (nI p1v_25)])) e3 (gm_ne e3 e1 (fun h => by cases h))
      have h_34 := gm_pass (k := y) (y := .inr (7, [.int (nI p1v_25)])) e4 (gm_ne e4 e1 (fun h => by cases h))
      have h_35 := gm_pass (k := y) (y := .inr (7, [.int (nI p1v_25)])) e5 (gm_ne e5 e1 (fun h => by cases h))
      have h_36 := gm_pass (k := y) (y := .inr (7, [.int (nI p1v_25)])) e6 (gm_ne e6 e1 (fun h => by cases h))
      have h_37 := gm_up_self M y (.inr (7, [.int (nI p1v_25)]))
      refine W.eq (g2 := F0 m 27 ls [.int (nI vv_24)]) rfl ?_
      refine lv_istore (lv' := [(4, .int (nI vv_24)), (0, .ref y), (1, .ref z), (2, .ref x), (3, .int (nI wh))]) hx hb d_Rr_readRange_27 hl (by decide) rfl (fun ls hl => ?_)
      refine lv_iload hx hb d_Rr_readRange_29 (lv_at hl 0 rfl) ?_
      refine lv_iconst (v := (-1)) hx hb d_Rr_readRange_31 (by decide) ?_
      refine lv_icmp_ne (tgt := 37) hx hb d_Rr_readRange_32 (by decide) (fun _ => ?_) (fun q => absurd q (nI_nm1 (by omega)))
      refine lv_aload_n hx hb d_Rr_readRange_37 rfl (lv_at hl 1 rfl) ?_
      refine lv_aload_n hx hb d_Rr_readRange_38 rfl (lv_at hl 2 rfl) ?_
      refine lv_bipush (v := nI 45) hx hb d_Rr_readRange_39 (by decide) ?_
      refine gc_V (q := (R_Rr, F_Rr, 1)) (n := 2) [.ref z, .int (nI 45)] [] hx hb hml hown hts hK hN hX hP hS (c_Rr_readMark h_37 h_32 h_33 (by omega) htx hcs (by omega) (by omega)) rfl h_37 k_390 k_392 ks_Rr_readMark k_3 k_393 (by decide +kernel) ⟨by decide, by decide⟩ rfl hl.1 rfl (Nat.le_of_ble_eq_true rfl) d_Rr_readRange_41 ⟨by decide, by decide⟩ (fun r N1 M_38 H locs hw hP hS => ?_)
      obtain ⟨rfl, hw⟩ := hw
      rcases hw with ⟨c_39, rfl, rfl⟩ | ⟨c_40, rfl, rfl⟩
      · skip
        have he_41 : gm_up (gm_up M y (.inr (7, [.int (nI p1v_25)]))) y (.inr (7, [.int (nI (p1v_25 + 1))])) = gm_up M y (.inr (7, [.int (nI (p1v_25 + 1))])) := gm_up_up _ _ _ _
        have hP := Eq.mp (congrArg (fun Z => gm_P D cls A N Z H) he_41) hP
        have h_42 := (congrFun he_41 _).symm.trans (gm_pass (k := y) (y := .inr (7, [.int (nI (p1v_25 + 1))])) h_32 (gm_ne h_32 h_37 (fun h => by cases h)))
        have h_43 := (congrFun he_41 _).symm.trans (gm_pass (k := y) (y := .inr (7, [.int (nI (p1v_25 + 1))])) h_33 (gm_ne h_33 h_37 (fun h => by cases h)))
        have h_44 := (congrFun he_41 _).symm.trans (gm_pass (k := y) (y := .inr (7, [.int (nI (p1v_25 + 1))])) h_34 (gm_ne h_34 h_37 (fun h => by cases h)))
        have h_45 := (congrFun he_41 _).symm.trans (gm_pass (k := y) (y := .inr (7, [.int (nI (p1v_25 + 1))])) h_35 (gm_ne h_35 h_37 (fun h => by cases h)))
        have h_46 := (congrFun he_41 _).symm.trans (gm_pass (k := y) (y := .inr (7, [.int (nI (p1v_25 + 1))])) h_36 (gm_ne h_36 h_37 (fun h => by cases h)))
        have h_47 := (congrFun he_41 _).symm.trans (gm_up_self (gm_up M y (.inr (7, [.int (nI p1v_25)]))) y (.inr (7, [.int (nI (p1v_25 + 1))])))
        refine W.eq (g2 := F0 m 44 ls [.int (nI 1)]) rfl ?_
        refine lv_if_eq (tgt := 57) hx hb d_Rr_readRange_44 (by decide) (fun q => absurd q (by decide)) (fun _ => ?_)
        refine lv_aload_n hx hb d_Rr_readRange_47 rfl (lv_at hl 1 rfl) ?_
        refine lv_aload_n hx hb d_Rr_readRange_48 rfl (lv_at hl 2 rfl) ?_
        refine lv_iload hx hb d_Rr_readRange_49 (lv_at hl 0 rfl) ?_
        refine gc_V (q := (R_Rr, F_Rr, 1)) (n := 2) [.ref z, .int (nI vv_24)] [] hx hb hml hown hts hK hN hX hP hS (c_Rr_readNumber h_47 h_42 h_43 (by omega) htx hcs (by omega) (by omega)) rfl h_47 k_398 k_400 ks_Rr_readNumber k_3 k_401 (by decide +kernel) ⟨by decide, by decide⟩ rfl hl.1 rfl (Nat.le_of_ble_eq_true rfl) d_Rr_readRange_51 ⟨by decide, by decide⟩ (fun r N1 M_48 H locs hw hP hS => ?_)
        obtain ⟨rfl, hw⟩ := hw
        rcases hw with ⟨vv_49, p1v_50, c_51, c_52, c_53, rfl, rfl⟩ | ⟨p1v_54, c_55, c_56, rfl, rfl⟩
        · skip
          have he_57 : gm_up (gm_up M y (.inr (7, [.int (nI (p1v_25 + 1))]))) y (.inr (7, [.int (nI p1v_50)])) = gm_up M y (.inr (7, [.int (nI p1v_50)])) := gm_up_up _ _ _ _
          have hP := Eq.mp (congrArg (fun Z => gm_P D cls A N Z H) he_57) hP
          have h_58 := (congrFun he_57 _).symm.trans (gm_pass (k := y) (y := .inr (7, [.int (nI p1v_50)])) h_42 (gm_ne h_42 h_47 (fun h => by cases h)))
          have h_59 := (congrFun he_57 _).symm.trans (gm_pass (k := y) (y := .inr (7, [.int (nI p1v_50)])) h_43 (gm_ne h_43 h_47 (fun h => by cases h)))
          have h_60 := (congrFun he_57 _).symm.trans (gm_pass (k := y) (y := .inr (7, [.int (nI p1v_50)])) h_44 (gm_ne h_44 h_47 (fun h => by cases h)))
          have h_61 := (congrFun he_57 _).symm.trans (gm_pass (k := y) (y := .inr (7, [.int (nI p1v_50)])) h_45 (gm_ne h_45 h_47 (fun h => by cases h)))
          have h_62 := (congrFun he_57 _).symm.trans (gm_pass (k := y) (y := .inr (7, [.int (nI p1v_50)])) h_46 (gm_ne h_46 h_47 (fun h => by cases h)))
          have h_63 := (congrFun he_57 _).symm.trans (gm_up_self (gm_up M y (.inr (7, [.int (nI (p1v_25 + 1))]))) y (.inr (7, [.int (nI p1v_50)])))
          refine W.eq (g2 := F0 m 54 ls [.int (nI vv_49)]) rfl ?_
          refine lv_goto (tgt := 59) hx hb d_Rr_readRange_54 (by decide) ?_
          refine lv_istore (lv' := [(5, .int (nI vv_49)), (4, .int (nI vv_24)), (0, .ref y), (1, .ref z), (2, .ref x), (3, .int (nI wh))]) hx hb d_Rr_readRange_59 hl (by decide) rfl (fun ls hl => ?_)
          refine lv_iload hx hb d_Rr_readRange_61 (lv_at hl 0 rfl) ?_
          refine lv_iconst (v := (-1)) hx hb d_Rr_readRange_63 (by decide) ?_
          refine lv_icmp_ne (tgt := 69) hx hb d_Rr_readRange_64 (by decide) (fun _ => ?_) (fun q => absurd q (nI_nm1 (by omega)))
          refine lv_aload_n hx hb d_Rr_readRange_69 rfl (lv_at hl 4 rfl) ?_
          refine lv_iload_n hx hb d_Rr_readRange_70 rfl (lv_at hl 5 rfl) ?_
          refine lv_iload hx hb d_Rr_readRange_71 (lv_at hl 1 rfl) ?_
          refine lv_iload hx hb d_Rr_readRange_73 (lv_at hl 0 rfl) ?_
          refine gc_V (q := (R_Ru, F_Ru, 5)) (n := 3) [.int (nI wh), .int (nI vv_24), .int (nI vv_49)] [] hx hb hml hown hts hK hN hX hP hS (c_Ru_setRange h_60 h_61 h_62 huv (by omega)) rfl h_60 k_394 k_395 k_396 k_5 k_397 (by decide +kernel) ⟨by decide, by decide⟩ rfl hl.1 rfl (Nat.le_of_ble_eq_true rfl) d_Rr_readRange_75 ⟨by decide, by decide⟩ (fun r N1 M_64 H locs hw hP hS => ?_)
          obtain ⟨rfl, hw⟩ := hw
          obtain rfl := hw
          have h_65 := gm_pass (k := u) (y := .inl (ca 0, 3, .inl (iN (va_up lw wh vv_24)))) h_58 (gm_ne h_58 h_61 (fun h => by cases h))
          have h_66 := gm_pass (k := u) (y := .inl (ca 0, 3, .inl (iN (va_up lw wh vv_24)))) h_59 (gm_ne h_59 h_61 (fun h => by simp at h))
          have h_67 := gm_pass (k := u) (y := .inl (ca 0, 3, .inl (iN (va_up lw wh vv_24)))) h_60 (gm_ne h_60 h_61 (fun h => by cases h))
          have h_68 := gm_pass (k := u) (y := .inl (ca 0, 3, .inl (iN (va_up lw wh vv_24)))) h_62 (Ne.symm huv)
          have h_69 := gm_pass (k := u) (y := .inl (ca 0, 3, .inl (iN (va_up lw wh vv_24)))) h_63 (gm_ne h_63 h_61 (fun h => by cases h))
          have h_70 := gm_up_self (gm_up M y (.inr (7, [.int (nI p1v_50)]))) u (.inl (ca 0, 3, .inl (iN (va_up lw wh vv_24))))
          have hP : gm_P D cls A N (gm_up (gm_up (gm_up M y (.inr (7, [.int (nI p1v_50)]))) u (.inl (ca 0, 3, .inl (iN (va_up lw wh vv_24))))) v (.inl (ca 0, 3, .inl (iN (va_up hw wh vv_49))))) H := hP
          have h_71 := gm_pass (k := v) (y := .inl (ca 0, 3, .inl (iN (va_up hw wh vv_49)))) h_65 (gm_ne h_65 h_68 (fun h => by cases h))
          have h_72 := gm_pass (k := v) (y := .inl (ca 0, 3, .inl (iN (va_up hw wh vv_49)))) h_66 (gm_ne h_66 h_68 (fun h => by simp at h))
          have h_73 := gm_pass (k := v) (y := .inl (ca 0, 3, .inl (iN (va_up hw wh vv_49)))) h_67 (gm_ne h_67 h_68 (fun h => by cases h))
          have h_74 := gm_pass (k := v) (y := .inl (ca 0, 3, .inl (iN (va_up hw wh vv_49)))) h_69 (gm_ne h_69 h_68 (fun h => by cases h))
          have h_75 := gm_pass (k := v) (y := .inl (ca 0, 3, .inl (iN (va_up hw wh vv_49)))) h_70 huv
          have h_76 := gm_up_self (gm_up (gm_up M y (.inr (7, [.int (nI p1v_50)]))) u (.inl (ca 0, 3, .inl (iN (va_up lw wh vv_24))))) v (.inl (ca 0, 3, .inl (iN (va_up hw wh vv_49))))
          refine W.eq (g2 := F0 m 78 ls []) rfl ?_
          refine lv_iconst (v := nI 1) hx hb d_Rr_readRange_78 (by decide) ?_
          exact gc_zret hx hb hr hlk hP hS d_Rr_readRange_79 rfl ⟨rfl, Or.inl ⟨vv_24, vv_49, p1v_50, rrg_two c_3 c_26 c_39 c_51, ⟨by omega, by omega⟩, (by omega), rfl, rfl⟩⟩
        · skip
          have he_77 : gm_up (gm_up M y (.inr (7, [.int (nI (p1v_25 + 1))]))) y (.inr (7, [.int (nI p1v_54)])) = gm_up M y (.inr (7, [.int (nI p1v_54)])) := gm_up_up _ _ _ _
          have hP := Eq.mp (congrArg (fun Z => gm_P D cls A N Z H) he_77) hP
          have h_78 := (congrFun he_77 _).symm.trans (gm_pass (k := y) (y := .inr (7, [.int (nI p1v_54)])) h_42 (gm_ne h_42 h_47 (fun h => by cases h)))
          have h_79 := (congrFun he_77 _).symm.trans (gm_pass (k := y) (y := .inr (7, [.int (nI p1v_54)])) h_43 (gm_ne h_43 h_47 (fun h => by cases h)))
          have h_80 := (congrFun he_77 _).symm.trans (gm_pass (k := y) (y := .inr (7, [.int (nI p1v_54)])) h_44 (gm_ne h_44 h_47 (fun h => by cases h)))
          have h_81 := (congrFun he_77 _).symm.trans (gm_pass (k := y) (y := .inr (7, [.int (nI p1v_54)])) h_45 (gm_ne h_45 h_47 (fun h => by cases h)))
          have h_82 := (congrFun he_77 _).symm.trans (gm_pass (k := y) (y := .inr (7, [.int (nI p1v_54)])) h_46 (gm_ne h_46 h_47 (fun h => by cases h)))
          have h_83 := (congrFun he_77 _).symm.trans (gm_up_self (gm_up M y (.inr (7, [.int (nI (p1v_25 + 1))]))) y (.inr (7, [.int (nI p1v_54)])))
          refine W.eq (g2 := F0 m 54 ls [.int (-1)]) rfl ?_
          refine lv_goto (tgt := 59) hx hb d_Rr_readRange_54 (by decide) ?_
          refine lv_istore (lv' := [(5, .int (-1)), (4, .int (nI vv_24)), (0, .ref y), (1, .ref z), (2, .ref x), (3, .int (nI wh))]) hx hb d_Rr_readRange_59 hl (by decide) rfl (fun ls hl => ?_)
          refine lv_iload hx hb d_Rr_readRange_61 (lv_at hl 0 rfl) ?_
          refine lv_iconst (v := (-1)) hx hb d_Rr_readRange_63 (by decide) ?_
          refine lv_icmp_ne (tgt := 69) hx hb d_Rr_readRange_64 (by decide) (fun q => absurd q (by decide)) (fun _ => ?_)
          refine lv_iconst (v := nI 0) hx hb d_Rr_readRange_67 (by decide) ?_
          exact gc_zret hx hb hr hlk hP hS d_Rr_readRange_68 rfl ⟨rfl, Or.inr ⟨p1v_54, rrg_n1 c_3 c_26 c_39 c_55, (by omega), rfl, rfl⟩⟩
      · skip
        refine W.eq (g2 := F0 m 44 ls [.int (nI 0)]) rfl ?_
        refine lv_if_eq (tgt := 57) hx hb d_Rr_readRange_44 (by decide) (fun _ => ?_) (fun q => absurd q (by decide))
        refine lv_iload hx hb d_Rr_readRange_57 (lv_at hl 0 rfl) ?_
        refine lv_istore (lv' := [(5, .int (nI vv_24)), (4, .int (nI vv_24)), (0, .ref y), (1, .ref z), (2, .ref x), (3, .int (nI wh))]) hx hb d_Rr_readRange_59 hl (by decide) rfl (fun ls hl => ?_)
        refine lv_iload hx hb d_Rr_readRange_61 (lv_at hl 0 rfl) ?_
        refine lv_iconst (v := (-1)) hx hb d_Rr_readRange_63 (by decide) ?_
        refine lv_icmp_ne (tgt := 69) hx hb d_Rr_readRange_64 (by decide) (fun _ => ?_) (fun q => absurd q (nI_nm1 (by omega)))
        refine lv_aload_n hx hb d_Rr_readRange_69 rfl (lv_at hl 4 rfl) ?_
        refine lv_iload_n hx hb d_Rr_readRange_70 rfl (lv_at hl 5 rfl) ?_
        refine lv_iload hx hb d_Rr_readRange_71 (lv_at hl 1 rfl) ?_
        refine lv_iload hx hb d_Rr_readRange_73 (lv_at hl 0 rfl) ?_
        refine gc_V (q := (R_Ru, F_Ru, 5)) (n := 3) [.int (nI wh), .int (nI vv_24), .int (nI vv_24)] [] hx hb hml hown hts hK hN hX hP hS (c_Ru_setRange h_34 h_35 h_36 huv (by omega)) rfl h_34 k_394 k_395 k_396 k_5 k_397 (by decide +kernel) ⟨by decide, by decide⟩ rfl hl.1 rfl (Nat.le_of_ble_eq_true rfl) d_Rr_readRange_75 ⟨by decide, by decide⟩ (fun r N1 M_84 H locs hw hP hS => ?_)
        obtain ⟨rfl, hw⟩ := hw
        obtain rfl := hw
        have h_85 := gm_pass (k := u) (y := .inl (ca 0, 3, .inl (iN (va_up lw wh vv_24)))) h_32 (gm_ne h_32 h_35 (fun h => by cases h))
        have h_86 := gm_pass (k := u) (y := .inl (ca 0, 3, .inl (iN (va_up lw wh vv_24)))) h_33 (gm_ne h_33 h_35 (fun h => by simp at h))
        have h_87 := gm_pass (k := u) (y := .inl (ca 0, 3, .inl (iN (va_up lw wh vv_24)))) h_34 (gm_ne h_34 h_35 (fun h => by cases h))
        have h_88 := gm_pass (k := u) (y := .inl (ca 0, 3, .inl (iN (va_up lw wh vv_24)))) h_36 (Ne.symm huv)
        have h_89 := gm_pass (k := u) (y := .inl (ca 0, 3, .inl (iN (va_up lw wh vv_24)))) h_37 (gm_ne h_37 h_35 (fun h => by cases h))
        have h_90 := gm_up_self (gm_up M y (.inr (7, [.int (nI p1v_25)]))) u (.inl (ca 0, 3, .inl (iN (va_up lw wh vv_24))))
        have hP : gm_P D cls A N (gm_up (gm_up (gm_up M y (.inr (7, [.int (nI p1v_25)]))) u (.inl (ca 0, 3, .inl (iN (va_up lw wh vv_24))))) v (.inl (ca 0, 3, .inl (iN (va_up hw wh vv_24))))) H := hP
        have h_91 := gm_pass (k := v) (y := .inl (ca 0, 3, .inl (iN (va_up hw wh vv_24)))) h_85 (gm_ne h_85 h_88 (fun h => by cases h))
        have h_92 := gm_pass (k := v) (y := .inl (ca 0, 3, .inl (iN (va_up hw wh vv_24)))) h_86 (gm_ne h_86 h_88 (fun h => by simp at h))
        have h_93 := gm_pass (k := v) (y := .inl (ca 0, 3, .inl (iN (va_up hw wh vv_24)))) h_87 (gm_ne h_87 h_88 (fun h => by cases h))
        have h_94 := gm_pass (k := v) (y := .inl (ca 0, 3, .inl (iN (va_up hw wh vv_24)))) h_89 (gm_ne h_89 h_88 (fun h => by cases h))
        have h_95 := gm_pass (k := v) (y := .inl (ca 0, 3, .inl (iN (va_up hw wh vv_24)))) h_90 huv
        have h_96 := gm_up_self (gm_up (gm_up M y (.inr (7, [.int (nI p1v_25)]))) u (.inl (ca 0, 3, .inl (iN (va_up lw wh vv_24))))) v (.inl (ca 0, 3, .inl (iN (va_up hw wh vv_24))))
        refine W.eq (g2 := F0 m 78 ls []) rfl ?_
        refine lv_iconst (v := nI 1) hx hb d_Rr_readRange_78 (by decide) ?_
        exact gc_zret hx hb hr hlk hP hS d_Rr_readRange_79 rfl ⟨rfl, Or.inl ⟨vv_24, vv_24, p1v_25, rrg_one c_3 c_26 c_40, ⟨by omega, by omega⟩, (by omega), rfl, rfl⟩⟩
    · skip
      have hP : gm_P D cls A N (gm_up M y (.inr (7, [.int (nI p1v_29)]))) H := hP
      have h_97 := gm_pass (k := y) (y := .inr (7, [.int (nI p1v_29)])) e2 (gm_ne e2 e1 (fun h => by cases h))
      have h_98 := gm_pass (k := y) (y := .inr (7, [.int (nI p1v_29)])) e3 (gm_ne e3 e1 (fun h => by cases h))
      have h_99 := gm_pass (k := y) (y := .inr (7, [.int (nI p1v_29)])) e4 (gm_ne e4 e1 (fun h => by cases h))
      have h_100 := gm_pass (k := y) (y := .inr (7, [.int (nI p1v_29)])) e5 (gm_ne e5 e1 (fun h => by cases h))
      have h_101 := gm_pass (k := y) (y := .inr (7, [.int (nI p1v_29)])) e6 (gm_ne e6 e1 (fun h => by cases h))
      have h_102 := gm_up_self M y (.inr (7, [.int (nI p1v_29)]))
      refine W.eq (g2 := F0 m 27 ls [.int (-1)]) rfl ?_
      refine lv_istore (lv' := [(4, .int (-1)), (0, .ref y), (1, .ref z), (2, .ref x), (3, .int (nI wh))]) hx hb d_Rr_readRange_27 hl (by decide) rfl (fun ls hl => ?_)
      refine lv_iload hx hb d_Rr_readRange_29 (lv_at hl 0 rfl) ?_
      refine lv_iconst (v := (-1)) hx hb d_Rr_readRange_31 (by decide) ?_
      refine lv_icmp_ne (tgt := 37) hx hb d_Rr_readRange_32 (by decide) (fun q => absurd q (by decide)) (fun _ => ?_)
      refine lv_iconst (v := nI 0) hx hb d_Rr_readRange_35 (by decide) ?_
      exact gc_zret hx hb hr hlk hP hS d_Rr_readRange_36 rfl ⟨rfl, Or.inr ⟨p1v_29, rrg_n0 c_3 c_30, (by omega), rfl, rfl⟩⟩
set_option maxHeartbeats 4000000 in
set_option maxRecDepth 100000 in
theorem c_Rr_readLetters {y z q p0 : Nat} {t : List Nat} {f : Nat → Int32} {x u v : Nat} {a0 a1 a2 : Int32} {lw hw : Nat → Nat} (e1 : M y = some (.inr (7, [.int (nI p0)]))) (e2 : M z = some (.inr (4, [.ref q, .int (nI t.length)]))) (e3 : M q = some (.inl (ca 1, 40, .inl f))) (e4 : M x = some (.inr (5, [.int a0, .int a1, .int a2, .ref u, .ref v]))) (e5 : M u = some (.inl (ca 0, 3, .inl (iN lw)))) (e6 : M v = some (.inl (ca 0, 3, .inl (iN hw)))) (ht : t.length ≤ 40) (htx : txt f t) (hcs : ∀ c ∈ t, c < 256) (hp0 : p0 ≤ 100) (huv : u ≠ v) (hlw : ∀ q, lw q ≤ 255) (hhw : ∀ q, hw q ≤ 255) (hp1 : p0 ≤ 80) : gC l D ca A G y_Rr_readLetters (.code y_Rr_readLetters b_Rr_readLetters 3 (some .boolean)) ({ frames := 5, cells := 0, slots := 0, locals := 114 }) N M [.ref y, .ref z, .ref x] gm_i (fun (r : Int32) (N1 : Nat) (M1 : gm_M) => N = N1 ∧ ((∃ (k0 : Nat) (k1 : Nat) (k2 : Nat), (lix 1 (t.getD p0 32) = some k0) ∧ (lix 2 (t.getD (p0 + 1) 32) = some k1) ∧ (lix 3 (t.getD (p0 + 1 + 1) 32) = some k2) ∧ gm_up (gm_up M y (.inr (7, [.int (nI (p0 + 1 + 1 + 1))]))) x (.inr (5, [.int (nI k0), .int (nI k1), .int (nI k2), .ref u, .ref v])) = M1 ∧ nI 1 = r) ∨ (∃ (b0 : Int32) (b1 : Int32) (b2 : Int32) (p1 : Nat), (letB t p0 = some p1) ∧ (p1 ≤ p0 + 2) ∧ M1 y = some (.inr (7, [.int (nI p1)])) ∧ M1 x = some (.inr (5, [.int b0, .int b1, .int b2, .ref u, .ref v])) ∧ (∀ z, z ≠ y → z ≠ x → M1 z = M z) ∧ nI 0 = r))) := by
  refine gm_body (by decide) (Nat.le_of_ble_eq_true rfl) (fun p e s m below meth c ls hx hb hr hts hown hlk hml hnm hP hK hN hX hS hl => ?_)
  have htl : ∀ w ∈ LW, w.before _ s = true := fun w h => hts w (List.mem_cons_of_mem _ h)
  have hown : s.vm.findClass "PacketGate$RuleReader" = some m.cls := hown
  have hl : lv_has ls 3 [(0, .ref y), (1, .ref z), (2, .ref x)] := hl
  refine lv_aload_n hx hb d_Rr_readLetters_0 rfl (lv_at hl 2 rfl) ?_
  refine lv_aload_n hx hb d_Rr_readLetters_1 rfl (lv_at hl 0 rfl) ?_
  refine lv_aload_n hx hb d_Rr_readLetters_2 rfl (lv_at hl 1 rfl) ?_
  refine va_ldcS hx hb hown hX.2.2.1.2.1 d_Rr_readLetters_3 ?_
  refine gc_V (q := (R_Rr, F_Rr, 1)) (n := 2) [.ref z, .ref (G.1 1)] [.ref x] hx hb hml hown hts hK hN hX hP hS (c_Rr_readOneOf 1 e1 e2 e3 (by omega) htx hcs (by omega) (by decide)) rfl e1 k_375 k_377 ks_Rr_readOneOf k_3 k_378 (by decide +kernel) ⟨by decide, by decide⟩ rfl hl.1 rfl (Nat.le_of_ble_eq_true rfl) d_Rr_readLetters_5 ⟨by decide, by decide⟩ (fun r N1 M_1 H locs hw hP hS => ?_)
  obtain ⟨rfl, hw⟩ := hw
  rcases hw with ⟨kv_2, c_3, c_4, rfl, rfl⟩ | ⟨c_5, rfl, rfl⟩
  · skip
    have hP : gm_P D cls A N (gm_up M y (.inr (7, [.int (nI (p0 + 1))]))) H := hP
    have h_6 := gm_pass (k := y) (y := .inr (7, [.int (nI (p0 + 1))])) e2 (gm_ne e2 e1 (fun h => by cases h))
    have h_7 := gm_pass (k := y) (y := .inr (7, [.int (nI (p0 + 1))])) e3 (gm_ne e3 e1 (fun h => by cases h))
    have h_8 := gm_pass (k := y) (y := .inr (7, [.int (nI (p0 + 1))])) e4 (gm_ne e4 e1 (fun h => by cases h))
    have h_9 := gm_pass (k := y) (y := .inr (7, [.int (nI (p0 + 1))])) e5 (gm_ne e5 e1 (fun h => by cases h))
    have h_10 := gm_pass (k := y) (y := .inr (7, [.int (nI (p0 + 1))])) e6 (gm_ne e6 e1 (fun h => by cases h))
    have h_11 := gm_up_self M y (.inr (7, [.int (nI (p0 + 1))]))
    refine W.eq (g2 := F0 m 8 ls [.int (nI kv_2), .ref x]) rfl ?_
    refine gm_put (C := R_Ru) (T := F_Ru) (n := 5) (ty := .int) hx hb htl i_Ru t_Ru tk_Ru n_Ru hown hK hP hS h_8 rfl 0 (by decide) (htl _ k_66) (fun _ h => h) rfl (tk_Ru 0 (by decide)) rfl rfl (Nat.le_of_ble_eq_true rfl) d_Rr_readLetters_8 (fun H locs hP hS => ?_)
    have hP : gm_P D cls A N (gm_up (gm_up M y (.inr (7, [.int (nI (p0 + 1))]))) x (.inr (5, [.int (nI kv_2), .int a1, .int a2, .ref u, .ref v]))) H := hP
    have h_12 := gm_pass (k := x) (y := .inr (5, [.int (nI kv_2), .int a1, .int a2, .ref u, .ref v])) h_6 (gm_ne h_6 h_8 (fun h => by cases h))
    have h_13 := gm_pass (k := x) (y := .inr (5, [.int (nI kv_2), .int a1, .int a2, .ref u, .ref v])) h_7 (gm_ne h_7 h_8 (fun h => by cases h))
    have h_14 := gm_pass (k := x) (y := .inr (5, [.int (nI kv_2), .int a1, .int a2, .ref u, .ref v])) h_9 (gm_ne h_9 h_8 (fun h => by cases h))
    have h_15 := gm_pass (k := x) (y := .inr (5, [.int (nI kv_2), .int a1, .int a2, .ref u, .ref v])) h_10 (gm_ne h_10 h_8 (fun h => by cases h))
    have h_16 := gm_pass (k := x) (y := .inr (5, [.int (nI kv_2), .int a1, .int a2, .ref u, .ref v])) h_11 (gm_ne h_11 h_8 (fun h => by cases h))
    have h_17 := gm_up_self (gm_up M y (.inr (7, [.int (nI (p0 + 1))]))) x (.inr (5, [.int (nI kv_2), .int a1, .int a2, .ref u, .ref v]))
    refine lv_aload_n hx hb d_Rr_readLetters_11 rfl (lv_at hl 2 rfl) ?_
    refine gm_get (C := R_Ru) (T := F_Ru) (n := 5) hx hb htl i_Ru hown hK hP h_17 rfl 0 (by decide) (htl _ k_66) (fun _ h => h) rfl d_Rr_readLetters_12 ?_
    refine lv_iconst (v := (-1)) hx hb d_Rr_readLetters_15 (by decide) ?_
    refine lv_icmp_ne (tgt := 21) hx hb d_Rr_readLetters_16 (by decide) (fun _ => ?_) (fun q => absurd q (nI_nm1 (by omega)))
    refine lv_aload_n hx hb d_Rr_readLetters_21 rfl (lv_at hl 2 rfl) ?_
    refine lv_aload_n hx hb d_Rr_readLetters_22 rfl (lv_at hl 0 rfl) ?_
    refine lv_aload_n hx hb d_Rr_readLetters_23 rfl (lv_at hl 1 rfl) ?_
    refine va_ldcS hx hb hown hX.2.2.1.2.2.1 d_Rr_readLetters_24 ?_
    refine gc_V (q := (R_Rr, F_Rr, 1)) (n := 2) [.ref z, .ref (G.1 2)] [.ref x] hx hb hml hown hts hK hN hX hP hS (c_Rr_readOneOf 2 h_16 h_12 h_13 (by omega) htx hcs (by omega) (by decide)) rfl h_16 k_375 k_377 ks_Rr_readOneOf k_3 k_378 (by decide +kernel) ⟨by decide, by decide⟩ rfl hl.1 rfl (Nat.le_of_ble_eq_true rfl) d_Rr_readLetters_26 ⟨by decide, by decide⟩ (fun r N1 M_18 H locs hw hP hS => ?_)
    obtain ⟨rfl, hw⟩ := hw
    rcases hw with ⟨kv_19, c_20, c_21, rfl, rfl⟩ | ⟨c_22, rfl, rfl⟩
    · skip
      have he_23 : gm_up (gm_up (gm_up M y (.inr (7, [.int (nI (p0 + 1))]))) x (.inr (5, [.int (nI kv_2), .int a1, .int a2, .ref u, .ref v]))) y (.inr (7, [.int (nI ((p0 + 1) + 1))])) = gm_up (gm_up M y (.inr (7, [.int (nI ((p0 + 1) + 1))]))) x (.inr (5, [.int (nI kv_2), .int a1, .int a2, .ref u, .ref v])) := (gm_swap (gm_ne h_17 h_16 (fun h => by cases h))).trans (congrArg (fun Z => gm_up Z x (.inr (5, [.int (nI kv_2), .int a1, .int a2, .ref u, .ref v]))) (gm_up_up _ _ _ _))
      have hP := Eq.mp (congrArg (fun Z => gm_P D cls A N Z H) he_23) hP
      have h_24 := (congrFun he_23 _).symm.trans (gm_pass (k := y) (y := .inr (7, [.int (nI ((p0 + 1) + 1))])) h_12 (gm_ne h_12 h_16 (fun h => by cases h)))
      have h_25 := (congrFun he_23 _).symm.trans (gm_pass (k := y) (y := .inr (7, [.int (nI ((p0 + 1) + 1))])) h_13 (gm_ne h_13 h_16 (fun h => by cases h)))
      have h_26 := (congrFun he_23 _).symm.trans (gm_pass (k := y) (y := .inr (7, [.int (nI ((p0 + 1) + 1))])) h_14 (gm_ne h_14 h_16 (fun h => by cases h)))
      have h_27 := (congrFun he_23 _).symm.trans (gm_pass (k := y) (y := .inr (7, [.int (nI ((p0 + 1) + 1))])) h_15 (gm_ne h_15 h_16 (fun h => by cases h)))
      have h_28 := (congrFun he_23 _).symm.trans (gm_pass (k := y) (y := .inr (7, [.int (nI ((p0 + 1) + 1))])) h_17 (gm_ne h_17 h_16 (fun h => by cases h)))
      have h_29 := (congrFun he_23 _).symm.trans (gm_up_self (gm_up (gm_up M y (.inr (7, [.int (nI (p0 + 1))]))) x (.inr (5, [.int (nI kv_2), .int a1, .int a2, .ref u, .ref v]))) y (.inr (7, [.int (nI ((p0 + 1) + 1))])))
      refine W.eq (g2 := F0 m 29 ls [.int (nI kv_19), .ref x]) rfl ?_
      refine gm_put (C := R_Ru) (T := F_Ru) (n := 5) (ty := .int) hx hb htl i_Ru t_Ru tk_Ru n_Ru hown hK hP hS h_28 rfl 1 (by decide) (htl _ k_69) (fun _ h => h) rfl (tk_Ru 1 (by decide)) rfl rfl (Nat.le_of_ble_eq_true rfl) d_Rr_readLetters_29 (fun H locs hP hS => ?_)
      have he_30 : gm_up (gm_up (gm_up M y (.inr (7, [.int (nI ((p0 + 1) + 1))]))) x (.inr (5, [.int (nI kv_2), .int a1, .int a2, .ref u, .ref v]))) x (.inr (5, [.int (nI kv_2), .int (nI kv_19), .int a2, .ref u, .ref v])) = gm_up (gm_up M y (.inr (7, [.int (nI ((p0 + 1) + 1))]))) x (.inr (5, [.int (nI kv_2), .int (nI kv_19), .int a2, .ref u, .ref v])) := gm_up_up _ _ _ _
      have hP := Eq.mp (congrArg (fun Z => gm_P D cls A N Z H) he_30) hP
      have h_31 := (congrFun he_30 _).symm.trans (gm_pass (k := x) (y := .inr (5, [.int (nI kv_2), .int (nI kv_19), .int a2, .ref u, .ref v])) h_24 (gm_ne h_24 h_28 (fun h => by cases h)))
      have h_32 := (congrFun he_30 _).symm.trans (gm_pass (k := x) (y := .inr (5, [.int (nI kv_2), .int (nI kv_19), .int a2, .ref u, .ref v])) h_25 (gm_ne h_25 h_28 (fun h => by cases h)))
      have h_33 := (congrFun he_30 _).symm.trans (gm_pass (k := x) (y := .inr (5, [.int (nI kv_2), .int (nI kv_19), .int a2, .ref u, .ref v])) h_26 (gm_ne h_26 h_28 (fun h => by cases h)))
      have h_34 := (congrFun he_30 _).symm.trans (gm_pass (k := x) (y := .inr (5, [.int (nI kv_2), .int (nI kv_19), .int a2, .ref u, .ref v])) h_27 (gm_ne h_27 h_28 (fun h => by cases h)))
      have h_35 := (congrFun he_30 _).symm.trans (gm_pass (k := x) (y := .inr (5, [.int (nI kv_2), .int (nI kv_19), .int a2, .ref u, .ref v])) h_29 (gm_ne h_29 h_28 (fun h => by cases h)))
      have h_36 := (congrFun he_30 _).symm.trans (gm_up_self (gm_up (gm_up M y (.inr (7, [.int (nI ((p0 + 1) + 1))]))) x (.inr (5, [.int (nI kv_2), .int a1, .int a2, .ref u, .ref v]))) x (.inr (5, [.int (nI kv_2), .int (nI kv_19), .int a2, .ref u, .ref v])))
      refine lv_aload_n hx hb d_Rr_readLetters_32 rfl (lv_at hl 2 rfl) ?_
      refine gm_get (C := R_Ru) (T := F_Ru) (n := 5) hx hb htl i_Ru hown hK hP h_36 rfl 1 (by decide) (htl _ k_69) (fun _ h => h) rfl d_Rr_readLetters_33 ?_
      refine lv_iconst (v := (-1)) hx hb d_Rr_readLetters_36 (by decide) ?_
      refine lv_icmp_ne (tgt := 42) hx hb d_Rr_readLetters_37 (by decide) (fun _ => ?_) (fun q => absurd q (nI_nm1 (by omega)))
      refine lv_aload_n hx hb d_Rr_readLetters_42 rfl (lv_at hl 2 rfl) ?_
      refine lv_aload_n hx hb d_Rr_readLetters_43 rfl (lv_at hl 0 rfl) ?_
      refine lv_aload_n hx hb d_Rr_readLetters_44 rfl (lv_at hl 1 rfl) ?_
      refine va_ldcS hx hb hown hX.2.2.1.2.2.2.1 d_Rr_readLetters_45 ?_
      refine gc_V (q := (R_Rr, F_Rr, 1)) (n := 2) [.ref z, .ref (G.1 3)] [.ref x] hx hb hml hown hts hK hN hX hP hS (c_Rr_readOneOf 3 h_35 h_31 h_32 (by omega) htx hcs (by omega) (by decide)) rfl h_35 k_375 k_377 ks_Rr_readOneOf k_3 k_378 (by decide +kernel) ⟨by decide, by decide⟩ rfl hl.1 rfl (Nat.le_of_ble_eq_true rfl) d_Rr_readLetters_47 ⟨by decide, by decide⟩ (fun r N1 M_37 H locs hw hP hS => ?_)
      obtain ⟨rfl, hw⟩ := hw
      rcases hw with ⟨kv_38, c_39, c_40, rfl, rfl⟩ | ⟨c_41, rfl, rfl⟩
      · skip
        have he_42 : gm_up (gm_up (gm_up M y (.inr (7, [.int (nI ((p0 + 1) + 1))]))) x (.inr (5, [.int (nI kv_2), .int (nI kv_19), .int a2, .ref u, .ref v]))) y (.inr (7, [.int (nI (((p0 + 1) + 1) + 1))])) = gm_up (gm_up M y (.inr (7, [.int (nI (((p0 + 1) + 1) + 1))]))) x (.inr (5, [.int (nI kv_2), .int (nI kv_19), .int a2, .ref u, .ref v])) := (gm_swap (gm_ne h_36 h_35 (fun h => by cases h))).trans (congrArg (fun Z => gm_up Z x (.inr (5, [.int (nI kv_2), .int (nI kv_19), .int a2, .ref u, .ref v]))) (gm_up_up _ _ _ _))
        have hP := Eq.mp (congrArg (fun Z => gm_P D cls A N Z H) he_42) hP
        have h_43 := (congrFun he_42 _).symm.trans (gm_pass (k := y) (y := .inr (7, [.int (nI (((p0 + 1) + 1) + 1))])) h_31 (gm_ne h_31 h_35 (fun h => by cases h)))
        have h_44 := (congrFun he_42 _).symm.trans (gm_pass (k := y) (y := .inr (7, [.int (nI (((p0 + 1) + 1) + 1))])) h_32 (gm_ne h_32 h_35 (fun h => by cases h)))
        have h_45 := (congrFun he_42 _).symm.trans (gm_pass (k := y) (y := .inr (7, [.int (nI (((p0 + 1) + 1) + 1))])) h_33 (gm_ne h_33 h_35 (fun h => by cases h)))
        have h_46 := (congrFun he_42 _).symm.trans (gm_pass (k := y) (y := .inr (7, [.int (nI (((p0 + 1) + 1) + 1))])) h_34 (gm_ne h_34 h_35 (fun h => by cases h)))
        have h_47 := (congrFun he_42 _).symm.trans (gm_pass (k := y) (y := .inr (7, [.int (nI (((p0 + 1) + 1) + 1))])) h_36 (gm_ne h_36 h_35 (fun h => by cases h)))
        have h_48 := (congrFun he_42 _).symm.trans (gm_up_self (gm_up (gm_up M y (.inr (7, [.int (nI ((p0 + 1) + 1))]))) x (.inr (5, [.int (nI kv_2), .int (nI kv_19), .int a2, .ref u, .ref v]))) y (.inr (7, [.int (nI (((p0 + 1) + 1) + 1))])))
        refine W.eq (g2 := F0 m 50 ls [.int (nI kv_38), .ref x]) rfl ?_
        refine gm_put (C := R_Ru) (T := F_Ru) (n := 5) (ty := .int) hx hb htl i_Ru t_Ru tk_Ru n_Ru hown hK hP hS h_47 rfl 2 (by decide) (htl _ k_71) (fun _ h => h) rfl (tk_Ru 2 (by decide)) rfl rfl (Nat.le_of_ble_eq_true rfl) d_Rr_readLetters_50 (fun H locs hP hS => ?_)
        have he_49 : gm_up (gm_up (gm_up M y (.inr (7, [.int (nI (((p0 + 1) + 1) + 1))]))) x (.inr (5, [.int (nI kv_2), .int (nI kv_19), .int a2, .ref u, .ref v]))) x (.inr (5, [.int (nI kv_2), .int (nI kv_19), .int (nI kv_38), .ref u, .ref v])) = gm_up (gm_up M y (.inr (7, [.int (nI (((p0 + 1) + 1) + 1))]))) x (.inr (5, [.int (nI kv_2), .int (nI kv_19), .int (nI kv_38), .ref u, .ref v])) := gm_up_up _ _ _ _
        have hP := Eq.mp (congrArg (fun Z => gm_P D cls A N Z H) he_49) hP
        have h_50 := (congrFun he_49 _).symm.trans (gm_pass (k := x) (y := .inr (5, [.int (nI kv_2), .int (nI kv_19), .int (nI kv_38), .ref u, .ref v])) h_43 (gm_ne h_43 h_47 (fun h => by cases h)))
        have h_51 := (congrFun he_49 _).symm.trans (gm_pass (k := x) (y := .inr (5, [.int (nI kv_2), .int (nI kv_19), .int (nI kv_38), .ref u, .ref v])) h_44 (gm_ne h_44 h_47 (fun h => by cases h)))
        have h_52 := (congrFun he_49 _).symm.trans (gm_pass (k := x) (y := .inr (5, [.int (nI kv_2), .int (nI kv_19), .int (nI kv_38), .ref u, .ref v])) h_45 (gm_ne h_45 h_47 (fun h => by cases h)))
        have h_53 := (congrFun he_49 _).symm.trans (gm_pass (k := x) (y := .inr (5, [.int (nI kv_2), .int (nI kv_19), .int (nI kv_38), .ref u, .ref v])) h_46 (gm_ne h_46 h_47 (fun h => by cases h)))
        have h_54 := (congrFun he_49 _).symm.trans (gm_pass (k := x) (y := .inr (5, [.int (nI kv_2), .int (nI kv_19), .int (nI kv_38), .ref u, .ref v])) h_48 (gm_ne h_48 h_47 (fun h => by cases h)))
        have h_55 := (congrFun he_49 _).symm.trans (gm_up_self (gm_up (gm_up M y (.inr (7, [.int (nI (((p0 + 1) + 1) + 1))]))) x (.inr (5, [.int (nI kv_2), .int (nI kv_19), .int a2, .ref u, .ref v]))) x (.inr (5, [.int (nI kv_2), .int (nI kv_19), .int (nI kv_38), .ref u, .ref v])))
        refine lv_aload_n hx hb d_Rr_readLetters_53 rfl (lv_at hl 2 rfl) ?_
        refine gm_get (C := R_Ru) (T := F_Ru) (n := 5) hx hb htl i_Ru hown hK hP h_55 rfl 2 (by decide) (htl _ k_71) (fun _ h => h) rfl d_Rr_readLetters_54 ?_
        refine lv_iconst (v := (-1)) hx hb d_Rr_readLetters_57 (by decide) ?_
        refine lv_icmp_eq (tgt := 65) hx hb d_Rr_readLetters_58 (by decide) (fun q => absurd q (nI_nm1 (by omega))) (fun _ => ?_)
        refine lv_iconst (v := nI 1) hx hb d_Rr_readLetters_61 (by decide) ?_
        refine lv_goto (tgt := 66) hx hb d_Rr_readLetters_62 (by decide) ?_
        exact gc_zret hx hb hr hlk hP hS d_Rr_readLetters_66 rfl ⟨rfl, Or.inl ⟨kv_2, kv_19, kv_38, c_3, c_20, c_39, rfl, rfl⟩⟩
      · skip
        refine W.eq (g2 := F0 m 50 ls [.int (-1), .ref x]) rfl ?_
        refine gm_put (C := R_Ru) (T := F_Ru) (n := 5) (ty := .int) hx hb htl i_Ru t_Ru tk_Ru n_Ru hown hK hP hS h_36 rfl 2 (by decide) (htl _ k_71) (fun _ h => h) rfl (tk_Ru 2 (by decide)) rfl rfl (Nat.le_of_ble_eq_true rfl) d_Rr_readLetters_50 (fun H locs hP hS => ?_)
        have he_56 : gm_up (gm_up (gm_up M y (.inr (7, [.int (nI ((p0 + 1) + 1))]))) x (.inr (5, [.int (nI kv_2), .int (nI kv_19), .int a2, .ref u, .ref v]))) x (.inr (5, [.int (nI kv_2), .int (nI kv_19), .int (-1), .ref u, .ref v])) = gm_up (gm_up M y (.inr (7, [.int (nI ((p0 + 1) + 1))]))) x (.inr (5, [.int (nI kv_2), .int (nI kv_19), .int (-1), .ref u, .ref v])) := gm_up_up _ _ _ _
        have hP := Eq.mp (congrArg (fun Z => gm_P D cls A N Z H) he_56) hP
        have h_57 := (congrFun he_56 _).symm.trans (gm_pass (k := x) (y := .inr (5, [.int (nI kv_2), .int (nI kv_19), .int (-1), .ref u, .ref v])) h_31 (gm_ne h_31 h_36 (fun h => by cases h)))
        have h_58 := (congrFun he_56 _).symm.trans (gm_pass (k := x) (y := .inr (5, [.int (nI kv_2), .int (nI kv_19), .int (-1), .ref u, .ref v])) h_32 (gm_ne h_32 h_36 (fun h => by cases h)))
        have h_59 := (congrFun he_56 _).symm.trans (gm_pass (k := x) (y := .inr (5, [.int (nI kv_2), .int (nI kv_19), .int (-1), .ref u, .ref v])) h_33 (gm_ne h_33 h_36 (fun h => by cases h)))
        have h_60 := (congrFun he_56 _).symm.trans (gm_pass (k := x) (y := .inr (5, [.int (nI kv_2), .int (nI kv_19), .int (-1), .ref u, .ref v])) h_34 (gm_ne h_34 h_36 (fun h => by cases h)))
        have h_61 := (congrFun he_56 _).symm.trans (gm_pass (k := x) (y := .inr (5, [.int (nI kv_2), .int (nI kv_19), .int (-1), .ref u, .ref v])) h_35 (gm_ne h_35 h_36 (fun h => by cases h)))
        have h_62 := (congrFun he_56 _).symm.trans (gm_up_self (gm_up (gm_up M y (.inr (7, [.int (nI ((p0 + 1) + 1))]))) x (.inr (5, [.int (nI kv_2), .int (nI kv_19), .int a2, .ref u, .ref v]))) x (.inr (5, [.int (nI kv_2), .int (nI kv_19), .int (-1), .ref u, .ref v])))
        refine lv_aload_n hx hb d_Rr_readLetters_53 rfl (lv_at hl 2 rfl) ?_
        refine gm_get (C := R_Ru) (T := F_Ru) (n := 5) hx hb htl i_Ru hown hK hP h_62 rfl 2 (by decide) (htl _ k_71) (fun _ h => h) rfl d_Rr_readLetters_54 ?_
        refine lv_iconst (v := (-1)) hx hb d_Rr_readLetters_57 (by decide) ?_
        refine lv_icmp_eq (tgt := 65) hx hb d_Rr_readLetters_58 (by decide) (fun _ => ?_) (fun q => absurd q (by decide))
        refine lv_iconst (v := nI 0) hx hb d_Rr_readLetters_65 (by decide) ?_
        exact gc_zret hx hb hr hlk hP hS d_Rr_readLetters_66 rfl ⟨rfl, Or.inr ⟨(nI kv_2), (nI kv_19), (-1), ((p0 + 1) + 1), (by unfold letB; rw [if_neg (by rw [c_3]; exact Option.some_ne_none _), if_neg (by rw [c_20]; exact Option.some_ne_none _), if_pos c_41]), (by omega), h_61, h_62, (fun z q0 q1 => (gm_up_ne _ _ q1).trans ((gm_up_ne _ _ q0).trans (rfl))), rfl⟩⟩
    · skip
      refine W.eq (g2 := F0 m 29 ls [.int (-1), .ref x]) rfl ?_
      refine gm_put (C := R_Ru) (T := F_Ru) (n := 5) (ty := .int) hx hb htl i_Ru t_Ru tk_Ru n_Ru hown hK hP hS h_17 rfl 1 (by decide) (htl _ k_69) (fun _ h => h) rfl (tk_Ru 1 (by decide)) rfl rfl (Nat.le_of_ble_eq_true rfl) d_Rr_readLetters_29 (fun H locs hP hS => ?_)
      have he_63 : gm_up (gm_up (gm_up M y (.inr (7, [.int (nI (p0 + 1))]))) x (.inr (5, [.int (nI kv_2), .int a1, .int a2, .ref u, .ref v]))) x (.inr (5, [.int (nI kv_2), .int (-1), .int a2, .ref u, .ref v])) = gm_up (gm_up M y (.inr (7, [.int (nI (p0 + 1))]))) x (.inr (5, [.int (nI kv_2), .int (-1), .int a2, .ref u, .ref v])) := gm_up_up _ _ _ _
      have hP := Eq.mp (congrArg (fun Z => gm_P D cls A N Z H) he_63) hP
      have h_64 := (congrFun he_63 _).symm.trans (gm_pass (k := x) (y := .inr (5, [.int (nI kv_2), .int (-1), .int a2, .ref u, .ref v])) h_12 (gm_ne h_12 h_17 (fun h => by cases h)))
      have h_65 := (congrFun he_63 _).symm.trans (gm_pass (k := x) (y := .inr (5, [.int (nI kv_2), .int (-1), .int a2, .ref u, .ref v])) h_13 (gm_ne h_13 h_17 (fun h => by cases h)))
      have h_66 := (congrFun he_63 _).symm.trans (gm_pass (k := x) (y := .inr (5, [.int (nI kv_2), .int (-1), .int a2, .ref u, .ref v])) h_14 (gm_ne h_14 h_17 (fun h => by cases h)))
      have h_67 := (congrFun he_63 _).symm.trans (gm_pass (k := x) (y := .inr (5, [.int (nI kv_2), .int (-1), .int a2, .ref u, .ref v])) h_15 (gm_ne h_15 h_17 (fun h => by cases h)))
      have h_68 := (congrFun he_63 _).symm.trans (gm_pass (k := x) (y := .inr (5, [.int (nI kv_2), .int (-1), .int a2, .ref u, .ref v])) h_16 (gm_ne h_16 h_17 (fun h => by cases h)))
      have h_69 := (congrFun he_63 _).symm.trans (gm_up_self (gm_up (gm_up M y (.inr (7, [.int (nI (p0 + 1))]))) x (.inr (5, [.int (nI kv_2), .int a1, .int a2, .ref u, .ref v]))) x (.inr (5, [.int (nI kv_2), .int (-1), .int a2, .ref u, .ref v])))
      refine lv_aload_n hx hb d_Rr_readLetters_32 rfl (lv_at hl 2 rfl) ?_
      refine gm_get (C := R_Ru) (T := F_Ru) (n := 5) hx hb htl i_Ru hown hK hP h_69 rfl 1 (by decide) (htl _ k_69) (fun _ h => h) rfl d_Rr_readLetters_33 ?_
      refine lv_iconst (v := (-1)) hx hb d_Rr_readLetters_36 (by decide) ?_
      refine lv_icmp_ne (tgt := 42) hx hb d_Rr_readLetters_37 (by decide) (fun q => absurd q (by decide)) (fun _ => ?_)
      refine lv_iconst (v := nI 0) hx hb d_Rr_readLetters_40 (by decide) ?_
      exact gc_zret hx hb hr hlk hP hS d_Rr_readLetters_41 rfl ⟨rfl, Or.inr ⟨(nI kv_2), (-1), a2, (p0 + 1), (by unfold letB; rw [if_neg (by rw [c_3]; exact Option.some_ne_none _), if_pos c_22]), (by omega), h_68, h_69, (fun z q0 q1 => (gm_up_ne _ _ q1).trans ((gm_up_ne _ _ q0).trans (rfl))), rfl⟩⟩
  · skip
    refine W.eq (g2 := F0 m 8 ls [.int (-1), .ref x]) rfl ?_
    refine gm_put (C := R_Ru) (T := F_Ru) (n := 5) (ty := .int) hx hb htl i_Ru t_Ru tk_Ru n_Ru hown hK hP hS e4 rfl 0 (by decide) (htl _ k_66) (fun _ h => h) rfl (tk_Ru 0 (by decide)) rfl rfl (Nat.le_of_ble_eq_true rfl) d_Rr_readLetters_8 (fun H locs hP hS => ?_)
    have hP : gm_P D cls A N (gm_up M x (.inr (5, [.int (-1), .int a1, .int a2, .ref u, .ref v]))) H := hP
    have h_70 := gm_pass (k := x) (y := .inr (5, [.int (-1), .int a1, .int a2, .ref u, .ref v])) e1 (gm_ne e1 e4 (fun h => by cases h))
    have h_71 := gm_pass (k := x) (y := .inr (5, [.int (-1), .int a1, .int a2, .ref u, .ref v])) e2 (gm_ne e2 e4 (fun h => by cases h))
    have h_72 := gm_pass (k := x) (y := .inr (5, [.int (-1), .int a1, .int a2, .ref u, .ref v])) e3 (gm_ne e3 e4 (fun h => by cases h))
    have h_73 := gm_pass (k := x) (y := .inr (5, [.int (-1), .int a1, .int a2, .ref u, .ref v])) e5 (gm_ne e5 e4 (fun h => by cases h))
    have h_74 := gm_pass (k := x) (y := .inr (5, [.int (-1), .int a1, .int a2, .ref u, .ref v])) e6 (gm_ne e6 e4 (fun h => by cases h))
    have h_75 := gm_up_self M x (.inr (5, [.int (-1), .int a1, .int a2, .ref u, .ref v]))
    refine lv_aload_n hx hb d_Rr_readLetters_11 rfl (lv_at hl 2 rfl) ?_
    refine gm_get (C := R_Ru) (T := F_Ru) (n := 5) hx hb htl i_Ru hown hK hP h_75 rfl 0 (by decide) (htl _ k_66) (fun _ h => h) rfl d_Rr_readLetters_12 ?_
    refine lv_iconst (v := (-1)) hx hb d_Rr_readLetters_15 (by decide) ?_
    refine lv_icmp_ne (tgt := 21) hx hb d_Rr_readLetters_16 (by decide) (fun q => absurd q (by decide)) (fun _ => ?_)
    refine lv_iconst (v := nI 0) hx hb d_Rr_readLetters_19 (by decide) ?_
    exact gc_zret hx hb hr hlk hP hS d_Rr_readLetters_20 rfl ⟨rfl, Or.inr ⟨(-1), a1, a2, p0, (by unfold letB; rw [if_pos c_5]), (by omega), h_70, h_75, (fun z q0 q1 => (gm_up_ne _ _ q1).trans (rfl)), rfl⟩⟩
set_option maxHeartbeats 4000000 in
set_option maxRecDepth 100000 in
theorem c_Rr_read {y z q p0 : Nat} {t : List Nat} {f : Nat → Int32} {x u v : Nat} {a0 a1 a2 : Int32} {lw hw : Nat → Nat} (e1 : M y = some (.inr (7, [.int (nI p0)]))) (e2 : M z = some (.inr (4, [.ref q, .int (nI t.length)]))) (e3 : M q = some (.inl (ca 1, 40, .inl f))) (e4 : M x = some (.inr (5, [.int a0, .int a1, .int a2, .ref u, .ref v]))) (e5 : M u = some (.inl (ca 0, 3, .inl (iN lw)))) (e6 : M v = some (.inl (ca 0, 3, .inl (iN hw)))) (ht : t.length ≤ 40) (htx : txt f t) (hcs : ∀ c ∈ t, c < 256) (huv : u ≠ v) (hlw : ∀ q, lw q ≤ 255) (hhw : ∀ q, hw q ≤ 255) : gC l D ca A G y_Rr_read (.code y_Rr_read b_Rr_read 3 (some .boolean)) ({ frames := 6, cells := 0, slots := 0, locals := 136 }) N M [.ref y, .ref z, .ref x] gm_i (fun (r : Int32) (N1 : Nat) (M1 : gm_M) => N = N1 ∧ ((∃ (k0 : Nat) (k1 : Nat) (k2 : Nat) (m1 : Nat) (m2 : Nat) (m3 : Nat) (n1 : Nat) (n2 : Nat) (n3 : Nat) (p1 : Nat), (prs t = (some [k0, k1, k2, m1, m2, m3, n1, n2, n3], p1)) ∧ (k0 < 3 ∧ k1 < 3 ∧ k2 < 4 ∧ m1 ≤ 255 ∧ m2 ≤ 255 ∧ m3 ≤ 255 ∧ n1 ≤ 255 ∧ n2 ≤ 255 ∧ n3 ≤ 255) ∧ M1 y = some (.inr (7, [.int (nI p1)])) ∧ M1 x = some (.inr (5, [.int (nI k0), .int (nI k1), .int (nI k2), .ref u, .ref v])) ∧ M1 u = some (.inl (ca 0, 3, .inl (iN (va_up (va_up (va_up lw 0 m1) 1 m2) 2 m3)))) ∧ M1 v = some (.inl (ca 0, 3, .inl (iN (va_up (va_up (va_up hw 0 n1) 1 n2) 2 n3)))) ∧ (∀ z, z ≠ y → z ≠ x → z ≠ u → z ≠ v → M1 z = M z) ∧ nI 1 = r) ∨ (∃ (b0 : Int32) (b1 : Int32) (b2 : Int32) (lw1 : Nat → Nat) (hw1 : Nat → Nat) (p1 : Nat), (prs t = (none, p1)) ∧ (p1 ≤ 50) ∧ (∀ q, lw1 q ≤ 255) ∧ (∀ q, hw1 q ≤ 255) ∧ M1 y = some (.inr (7, [.int (nI p1)])) ∧ M1 x = some (.inr (5, [.int b0, .int b1, .int b2, .ref u, .ref v])) ∧ M1 u = some (.inl (ca 0, 3, .inl (iN lw1))) ∧ M1 v = some (.inl (ca 0, 3, .inl (iN hw1))) ∧ (∀ z, z ≠ y → z ≠ x → z ≠ u → z ≠ v → M1 z = M z) ∧ nI 0 = r))) := by
  refine gm_body (by decide) (Nat.le_of_ble_eq_true rfl) (fun p e s m below meth c ls hx hb hr hts hown hlk hml hnm hP hK hN hX hS hl => ?_)
  have htl : ∀ w ∈ LW, w.before _ s = true := fun w h => hts w (List.mem_cons_of_mem _ h)
  have hown : s.vm.findClass "PacketGate$RuleReader" = some m.cls := hown
  have hl : lv_has ls 3 [(0, .ref y), (1, .ref z), (2, .ref x)] := hl
  refine lv_aload_n hx hb d_Rr_read_0 rfl (lv_at hl 0 rfl) ?_
  refine lv_iconst (v := nI 0) hx hb d_Rr_read_1 (by decide) ?_
  refine gm_put (C := R_Rr) (T := F_Rr) (n := 1) (ty := .int) hx hb htl i_Rr t_Rr tk_Rr n_Rr hown hK hP hS e1 rfl 0 (by decide) (htl _ k_47) (fun _ h => h) rfl (tk_Rr 0 (by decide)) rfl rfl (Nat.le_of_ble_eq_true rfl) d_Rr_read_2 (fun H locs hP hS => ?_)
  have hP : gm_P D cls A N (gm_up M y (.inr (7, [.int (nI 0)]))) H := hP
  have h_1 := gm_pass (k := y) (y := .inr (7, [.int (nI 0)])) e2 (gm_ne e2 e1 (fun h => by cases h))
  have h_2 := gm_pass (k := y) (y := .inr (7, [.int (nI 0)])) e3 (gm_ne e3 e1 (fun h => by cases h))
  have h_3 := gm_pass (k := y) (y := .inr (7, [.int (nI 0)])) e4 (gm_ne e4 e1 (fun h => by cases h))
  have h_4 := gm_pass (k := y) (y := .inr (7, [.int (nI 0)])) e5 (gm_ne e5 e1 (fun h => by cases h))
  have h_5 := gm_pass (k := y) (y := .inr (7, [.int (nI 0)])) e6 (gm_ne e6 e1 (fun h => by cases h))
  have h_6 := gm_up_self M y (.inr (7, [.int (nI 0)]))
  refine lv_aload_n hx hb d_Rr_read_5 rfl (lv_at hl 0 rfl) ?_
  refine lv_aload_n hx hb d_Rr_read_6 rfl (lv_at hl 1 rfl) ?_
  refine lv_aload_n hx hb d_Rr_read_7 rfl (lv_at hl 2 rfl) ?_
  refine gc_V (q := (R_Rr, F_Rr, 1)) (n := 2) [.ref z, .ref x] [] hx hb hml hown hts hK hN hX hP hS (c_Rr_readLetters h_6 h_1 h_2 h_3 h_4 h_5 (by omega) htx hcs (by omega) huv hlw hhw (by omega)) rfl h_6 k_370 k_372 ks_Rr_readLetters k_3 k_373 (by decide +kernel) ⟨by decide, by decide⟩ rfl hl.1 rfl (Nat.le_of_ble_eq_true rfl) d_Rr_read_8 ⟨by decide, by decide⟩ (fun r N1 M_7 H locs hw hP hS => ?_)
  obtain ⟨rfl, hw⟩ := hw
  rcases hw with ⟨k0v_8, k1v_9, k2v_10, c_11, c_12, c_13, rfl, rfl⟩ | ⟨b0v_14, b1v_15, b2v_16, p1v_17, c_18, c_19, h_20, h_21, hfr_22, rfl⟩
  · skip
    have he_23 : gm_up (gm_up M y (.inr (7, [.int (nI 0)]))) y (.inr (7, [.int (nI (0 + 1 + 1 + 1))])) = gm_up M y (.inr (7, [.int (nI (0 + 1 + 1 + 1))])) := gm_up_up _ _ _ _
    have hP := Eq.mp (congrArg (fun Z => gm_P D cls A N (gm_up Z x (.inr (5, [.int (nI k0v_8), .int (nI k1v_9), .int (nI k2v_10), .ref u, .ref v]))) H) he_23) hP
    have h_24 := (congrFun he_23 _).symm.trans (gm_pass (k := y) (y := .inr (7, [.int (nI (0 + 1 + 1 + 1))])) h_1 (gm_ne h_1 h_6 (fun h => by cases h)))
    have h_25 := (congrFun he_23 _).symm.trans (gm_pass (k := y) (y := .inr (7, [.int (nI (0 + 1 + 1 + 1))])) h_2 (gm_ne h_2 h_6 (fun h => by cases h)))
    have h_26 := (congrFun he_23 _).symm.trans (gm_pass (k := y) (y := .inr (7, [.int (nI (0 + 1 + 1 + 1))])) h_3 (gm_ne h_3 h_6 (fun h => by cases h)))
    have h_27 := (congrFun he_23 _).symm.trans (gm_pass (k := y) (y := .inr (7, [.int (nI (0 + 1 + 1 + 1))])) h_4 (gm_ne h_4 h_6 (fun h => by cases h)))
    have h_28 := (congrFun he_23 _).symm.trans (gm_pass (k := y) (y := .inr (7, [.int (nI (0 + 1 + 1 + 1))])) h_5 (gm_ne h_5 h_6 (fun h => by cases h)))
    have h_29 := (congrFun he_23 _).symm.trans (gm_up_self (gm_up M y (.inr (7, [.int (nI 0)]))) y (.inr (7, [.int (nI (0 + 1 + 1 + 1))])))
    have hP : gm_P D cls A N (gm_up (gm_up M y (.inr (7, [.int (nI (0 + 1 + 1 + 1))]))) x (.inr (5, [.int (nI k0v_8), .int (nI k1v_9), .int (nI k2v_10), .ref u, .ref v]))) H := hP
    have h_30 := gm_pass (k := x) (y := .inr (5, [.int (nI k0v_8), .int (nI k1v_9), .int (nI k2v_10), .ref u, .ref v])) h_24 (gm_ne h_24 h_26 (fun h => by cases h))
    have h_31 := gm_pass (k := x) (y := .inr (5, [.int (nI k0v_8), .int (nI k1v_9), .int (nI k2v_10), .ref u, .ref v])) h_25 (gm_ne h_25 h_26 (fun h => by cases h))
    have h_32 := gm_pass (k := x) (y := .inr (5, [.int (nI k0v_8), .int (nI k1v_9), .int (nI k2v_10), .ref u, .ref v])) h_27 (gm_ne h_27 h_26 (fun h => by cases h))
    have h_33 := gm_pass (k := x) (y := .inr (5, [.int (nI k0v_8), .int (nI k1v_9), .int (nI k2v_10), .ref u, .ref v])) h_28 (gm_ne h_28 h_26 (fun h => by cases h))
    have h_34 := gm_pass (k := x) (y := .inr (5, [.int (nI k0v_8), .int (nI k1v_9), .int (nI k2v_10), .ref u, .ref v])) h_29 (gm_ne h_29 h_26 (fun h => by cases h))
    have h_35 := gm_up_self (gm_up M y (.inr (7, [.int (nI (0 + 1 + 1 + 1))]))) x (.inr (5, [.int (nI k0v_8), .int (nI k1v_9), .int (nI k2v_10), .ref u, .ref v]))
    refine W.eq (g2 := F0 m 11 ls [.int (nI 1)]) rfl ?_
    refine lv_if_eq (tgt := 79) hx hb d_Rr_read_11 (by decide) (fun q => absurd q (by decide)) (fun _ => ?_)
    refine lv_aload_n hx hb d_Rr_read_14 rfl (lv_at hl 0 rfl) ?_
    refine lv_aload_n hx hb d_Rr_read_15 rfl (lv_at hl 1 rfl) ?_
    refine lv_aload_n hx hb d_Rr_read_16 rfl (lv_at hl 2 rfl) ?_
    refine lv_iconst (v := nI 0) hx hb d_Rr_read_17 (by decide) ?_
    refine gc_V (q := (R_Rr, F_Rr, 1)) (n := 3) [.ref z, .ref x, .int (nI 0)] [] hx hb hml hown hts hK hN hX hP hS (c_Rr_readRange h_34 h_30 h_31 h_35 h_32 h_33 (by omega) htx hcs (by omega) huv hlw hhw (by omega) (by omega)) rfl h_34 k_386 k_388 ks_Rr_readRange k_3 k_389 (by decide +kernel) ⟨by decide, by decide⟩ rfl hl.1 rfl (Nat.le_of_ble_eq_true rfl) d_Rr_read_18 ⟨by decide, by decide⟩ (fun r N1 M_36 H locs hw hP hS => ?_)
    obtain ⟨rfl, hw⟩ := hw
    rcases hw with ⟨av_37, bv_38, p1v_39, c_40, c_41, c_42, rfl, rfl⟩ | ⟨p1v_43, c_44, c_45, rfl, rfl⟩
    · skip
      have he_46 : gm_up (gm_up (gm_up M y (.inr (7, [.int (nI (0 + 1 + 1 + 1))]))) x (.inr (5, [.int (nI k0v_8), .int (nI k1v_9), .int (nI k2v_10), .ref u, .ref v]))) y (.inr (7, [.int (nI p1v_39)])) = gm_up (gm_up M y (.inr (7, [.int (nI p1v_39)]))) x (.inr (5, [.int (nI k0v_8), .int (nI k1v_9), .int (nI k2v_10), .ref u, .ref v])) := (gm_swap (gm_ne h_35 h_34 (fun h => by cases h))).trans (congrArg (fun Z => gm_up Z x (.inr (5, [.int (nI k0v_8), .int (nI k1v_9), .int (nI k2v_10), .ref u, .ref v]))) (gm_up_up _ _ _ _))
      have hP := Eq.mp (congrArg (fun Z => gm_P D cls A N (gm_up (gm_up Z u (.inl (ca 0, 3, .inl (iN (va_up lw 0 av_37))))) v (.inl (ca 0, 3, .inl (iN (va_up hw 0 bv_38))))) H) he_46) hP
      have h_47 := (congrFun he_46 _).symm.trans (gm_pass (k := y) (y := .inr (7, [.int (nI p1v_39)])) h_30 (gm_ne h_30 h_34 (fun h => by cases h)))
      have h_48 := (congrFun he_46 _).symm.trans (gm_pass (k := y) (y := .inr (7, [.int (nI p1v_39)])) h_31 (gm_ne h_31 h_34 (fun h => by cases h)))
      have h_49 := (congrFun he_46 _).symm.trans (gm_pass (k := y) (y := .inr (7, [.int (nI p1v_39)])) h_32 (gm_ne h_32 h_34 (fun h => by cases h)))
      have h_50 := (congrFun he_46 _).symm.trans (gm_pass (k := y) (y := .inr (7, [.int (nI p1v_39)])) h_33 (gm_ne h_33 h_34 (fun h => by cases h)))
      have h_51 := (congrFun he_46 _).symm.trans (gm_pass (k := y) (y := .inr (7, [.int (nI p1v_39)])) h_35 (gm_ne h_35 h_34 (fun h => by cases h)))
      have h_52 := (congrFun he_46 _).symm.trans (gm_up_self (gm_up (gm_up M y (.inr (7, [.int (nI (0 + 1 + 1 + 1))]))) x (.inr (5, [.int (nI k0v_8), .int (nI k1v_9), .int (nI k2v_10), .ref u, .ref v]))) y (.inr (7, [.int (nI p1v_39)])))
      have h_53 := gm_pass (k := u) (y := .inl (ca 0, 3, .inl (iN (va_up lw 0 av_37)))) h_47 (gm_ne h_47 h_49 (fun h => by cases h))
      have h_54 := gm_pass (k := u) (y := .inl (ca 0, 3, .inl (iN (va_up lw 0 av_37)))) h_48 (gm_ne h_48 h_49 (fun h => by simp at h))
      have h_55 := gm_pass (k := u) (y := .inl (ca 0, 3, .inl (iN (va_up lw 0 av_37)))) h_50 (Ne.symm huv)
      have h_56 := gm_pass (k := u) (y := .inl (ca 0, 3, .inl (iN (va_up lw 0 av_37)))) h_51 (gm_ne h_51 h_49 (fun h => by cases h))
      have h_57 := gm_pass (k := u) (y := .inl (ca 0, 3, .inl (iN (va_up lw 0 av_37)))) h_52 (gm_ne h_52 h_49 (fun h => by cases h))
      have h_58 := gm_up_self (gm_up (gm_up M y (.inr (7, [.int (nI p1v_39)]))) x (.inr (5, [.int (nI k0v_8), .int (nI k1v_9), .int (nI k2v_10), .ref u, .ref v]))) u (.inl (ca 0, 3, .inl (iN (va_up lw 0 av_37))))
      have hP : gm_P D cls A N (gm_up (gm_up (gm_up (gm_up M y (.inr (7, [.int (nI p1v_39)]))) x (.inr (5, [.int (nI k0v_8), .int (nI k1v_9), .int (nI k2v_10), .ref u, .ref v]))) u (.inl (ca 0, 3, .inl (iN (va_up lw 0 av_37))))) v (.inl (ca 0, 3, .inl (iN (va_up hw 0 bv_38))))) H := hP
      have h_59 := gm_pass (k := v) (y := .inl (ca 0, 3, .inl (iN (va_up hw 0 bv_38)))) h_53 (gm_ne h_53 h_55 (fun h => by cases h))
      have h_60 := gm_pass (k := v) (y := .inl (ca 0, 3, .inl (iN (va_up hw 0 bv_38)))) h_54 (gm_ne h_54 h_55 (fun h => by simp at h))
      have h_61 := gm_pass (k := v) (y := .inl (ca 0, 3, .inl (iN (va_up hw 0 bv_38)))) h_56 (gm_ne h_56 h_55 (fun h => by cases h))
      have h_62 := gm_pass (k := v) (y := .inl (ca 0, 3, .inl (iN (va_up hw 0 bv_38)))) h_57 (gm_ne h_57 h_55 (fun h => by cases h))
      have h_63 := gm_pass (k := v) (y := .inl (ca 0, 3, .inl (iN (va_up hw 0 bv_38)))) h_58 huv
      have h_64 := gm_up_self (gm_up (gm_up (gm_up M y (.inr (7, [.int (nI p1v_39)]))) x (.inr (5, [.int (nI k0v_8), .int (nI k1v_9), .int (nI k2v_10), .ref u, .ref v]))) u (.inl (ca 0, 3, .inl (iN (va_up lw 0 av_37))))) v (.inl (ca 0, 3, .inl (iN (va_up hw 0 bv_38))))
      refine W.eq (g2 := F0 m 21 ls [.int (nI 1)]) rfl ?_
      refine lv_if_eq (tgt := 79) hx hb d_Rr_read_21 (by decide) (fun q => absurd q (by decide)) (fun _ => ?_)
      refine lv_aload_n hx hb d_Rr_read_24 rfl (lv_at hl 0 rfl) ?_
      refine lv_aload_n hx hb d_Rr_read_25 rfl (lv_at hl 1 rfl) ?_
      refine lv_bipush (v := nI 44) hx hb d_Rr_read_26 (by decide) ?_
      refine gc_V (q := (R_Rr, F_Rr, 1)) (n := 2) [.ref z, .int (nI 44)] [] hx hb hml hown hts hK hN hX hP hS (c_Rr_readMark h_62 h_59 h_60 (by omega) htx hcs (by omega) (by omega)) rfl h_62 k_390 k_392 ks_Rr_readMark k_3 k_393 (by decide +kernel) ⟨by decide, by decide⟩ rfl hl.1 rfl (Nat.le_of_ble_eq_true rfl) d_Rr_read_28 ⟨by decide, by decide⟩ (fun r N1 M_65 H locs hw hP hS => ?_)
      obtain ⟨rfl, hw⟩ := hw
      rcases hw with ⟨c_66, rfl, rfl⟩ | ⟨c_67, rfl, rfl⟩
      · skip
        have he_68 : gm_up (gm_up (gm_up (gm_up (gm_up M y (.inr (7, [.int (nI p1v_39)]))) x (.inr (5, [.int (nI k0v_8), .int (nI k1v_9), .int (nI k2v_10), .ref u, .ref v]))) u (.inl (ca 0, 3, .inl (iN (va_up lw 0 av_37))))) v (.inl (ca 0, 3, .inl (iN (va_up hw 0 bv_38))))) y (.inr (7, [.int (nI (p1v_39 + 1))])) = gm_up (gm_up (gm_up (gm_up M y (.inr (7, [.int (nI (p1v_39 + 1))]))) x (.inr (5, [.int (nI k0v_8), .int (nI k1v_9), .int (nI k2v_10), .ref u, .ref v]))) u (.inl (ca 0, 3, .inl (iN (va_up lw 0 av_37))))) v (.inl (ca 0, 3, .inl (iN (va_up hw 0 bv_38)))) := (gm_swap (gm_ne h_64 h_62 (fun h => by cases h))).trans (congrArg (fun Z => gm_up Z v (.inl (ca 0, 3, .inl (iN (va_up hw 0 bv_38))))) ((gm_swap (gm_ne h_63 h_62 (fun h => by cases h))).trans (congrArg (fun Z => gm_up Z u (.inl (ca 0, 3, .inl (iN (va_up lw 0 av_37))))) ((gm_swap (gm_ne h_61 h_62 (fun h => by cases h))).trans (congrArg (fun Z => gm_up Z x (.inr (5, [.int (nI k0v_8), .int (nI k1v_9), .int (nI k2v_10), .ref u, .ref v]))) (gm_up_up _ _ _ _))))))
        have hP := Eq.mp (congrArg (fun Z => gm_P D cls A N Z H) he_68) hP
        have h_69 := (congrFun he_68 _).symm.trans (gm_pass (k := y) (y := .inr (7, [.int (nI (p1v_39 + 1))])) h_59 (gm_ne h_59 h_62 (fun h => by cases h)))
        have h_70 := (congrFun he_68 _).symm.trans (gm_pass (k := y) (y := .inr (7, [.int (nI (p1v_39 + 1))])) h_60 (gm_ne h_60 h_62 (fun h => by cases h)))
        have h_71 := (congrFun he_68 _).symm.trans (gm_pass (k := y) (y := .inr (7, [.int (nI (p1v_39 + 1))])) h_61 (gm_ne h_61 h_62 (fun h => by cases h)))
        have h_72 := (congrFun he_68 _).symm.trans (gm_pass (k := y) (y := .inr (7, [.int (nI (p1v_39 + 1))])) h_63 (gm_ne h_63 h_62 (fun h => by cases h)))
        have h_73 := (congrFun he_68 _).symm.trans (gm_pass (k := y) (y := .inr (7, [.int (nI (p1v_39 + 1))])) h_64 (gm_ne h_64 h_62 (fun h => by cases h)))
        have h_74 := (congrFun he_68 _).symm.trans (gm_up_self (gm_up (gm_up (gm_up (gm_up M y (.inr (7, [.int (nI p1v_39)]))) x (.inr (5, [.int (nI k0v_8), .int (nI k1v_9), .int (nI k2v_10), .ref u, .ref v]))) u (.inl (ca 0, 3, .inl (iN (va_up lw 0 av_37))))) v (.inl (ca 0, 3, .inl (iN (va_up hw 0 bv_38))))) y (.inr (7, [.int (nI (p1v_39 + 1))])))
        refine W.eq (g2 := F0 m 31 ls [.int (nI 1)]) rfl ?_
        refine lv_if_eq (tgt := 79) hx hb d_Rr_read_31 (by decide) (fun q => absurd q (by decide)) (fun _ => ?_)
        refine lv_aload_n hx hb d_Rr_read_34 rfl (lv_at hl 0 rfl) ?_
        refine lv_aload_n hx hb d_Rr_read_35 rfl (lv_at hl 1 rfl) ?_
        refine lv_aload_n hx hb d_Rr_read_36 rfl (lv_at hl 2 rfl) ?_
        refine lv_iconst (v := nI 1) hx hb d_Rr_read_37 (by decide) ?_
        refine gc_V (q := (R_Rr, F_Rr, 1)) (n := 3) [.ref z, .ref x, .int (nI 1)] [] hx hb hml hown hts hK hN hX hP hS (c_Rr_readRange h_74 h_69 h_70 h_71 h_72 h_73 (by omega) htx hcs (by omega) huv (va_up_le hlw c_41.1) (va_up_le hhw c_41.2) (by omega) (by omega)) rfl h_74 k_386 k_388 ks_Rr_readRange k_3 k_389 (by decide +kernel) ⟨by decide, by decide⟩ rfl hl.1 rfl (Nat.le_of_ble_eq_true rfl) d_Rr_read_38 ⟨by decide, by decide⟩ (fun r N1 M_75 H locs hw hP hS => ?_)
        obtain ⟨rfl, hw⟩ := hw
        rcases hw with ⟨av_76, bv_77, p1v_78, c_79, c_80, c_81, rfl, rfl⟩ | ⟨p1v_82, c_83, c_84, rfl, rfl⟩
        · skip
          have he_85 : gm_up (gm_up (gm_up (gm_up (gm_up M y (.inr (7, [.int (nI (p1v_39 + 1))]))) x (.inr (5, [.int (nI k0v_8), .int (nI k1v_9), .int (nI k2v_10), .ref u, .ref v]))) u (.inl (ca 0, 3, .inl (iN (va_up lw 0 av_37))))) v (.inl (ca 0, 3, .inl (iN (va_up hw 0 bv_38))))) y (.inr (7, [.int (nI p1v_78)])) = gm_up (gm_up (gm_up (gm_up M y (.inr (7, [.int (nI p1v_78)]))) x (.inr (5, [.int (nI k0v_8), .int (nI k1v_9), .int (nI k2v_10), .ref u, .ref v]))) u (.inl (ca 0, 3, .inl (iN (va_up lw 0 av_37))))) v (.inl (ca 0, 3, .inl (iN (va_up hw 0 bv_38)))) := (gm_swap (gm_ne h_73 h_74 (fun h => by cases h))).trans (congrArg (fun Z => gm_up Z v (.inl (ca 0, 3, .inl (iN (va_up hw 0 bv_38))))) ((gm_swap (gm_ne h_72 h_74 (fun h => by cases h))).trans (congrArg (fun Z => gm_up Z u (.inl (ca 0, 3, .inl (iN (va_up lw 0 av_37))))) ((gm_swap (gm_ne h_71 h_74 (fun h => by cases h))).trans (congrArg (fun Z => gm_up Z x (.inr (5, [.int (nI k0v_8), .int (nI k1v_9), .int (nI k2v_10), .ref u, .ref v]))) (gm_up_up _ _ _ _))))))
          have hP := Eq.mp (congrArg (fun Z => gm_P D cls A N (gm_up (gm_up Z u (.inl (ca 0, 3, .inl (iN (va_up (va_up lw 0 av_37) 1 av_76))))) v (.inl (ca 0, 3, .inl (iN (va_up (va_up hw 0 bv_38) 1 bv_77))))) H) he_85) hP
          have h_86 := (congrFun he_85 _).symm.trans (gm_pass (k := y) (y := .inr (7, [.int (nI p1v_78)])) h_69 (gm_ne h_69 h_74 (fun h => by cases h)))
          have h_87 := (congrFun he_85 _).symm.trans (gm_pass (k := y) (y := .inr (7, [.int (nI p1v_78)])) h_70 (gm_ne h_70 h_74 (fun h => by cases h)))
          have h_88 := (congrFun he_85 _).symm.trans (gm_pass (k := y) (y := .inr (7, [.int (nI p1v_78)])) h_71 (gm_ne h_71 h_74 (fun h => by cases h)))
          have h_89 := (congrFun he_85 _).symm.trans (gm_pass (k := y) (y := .inr (7, [.int (nI p1v_78)])) h_72 (gm_ne h_72 h_74 (fun h => by cases h)))
          have h_90 := (congrFun he_85 _).symm.trans (gm_pass (k := y) (y := .inr (7, [.int (nI p1v_78)])) h_73 (gm_ne h_73 h_74 (fun h => by cases h)))
          have h_91 := (congrFun he_85 _).symm.trans (gm_up_self (gm_up (gm_up (gm_up (gm_up M y (.inr (7, [.int (nI (p1v_39 + 1))]))) x (.inr (5, [.int (nI k0v_8), .int (nI k1v_9), .int (nI k2v_10), .ref u, .ref v]))) u (.inl (ca 0, 3, .inl (iN (va_up lw 0 av_37))))) v (.inl (ca 0, 3, .inl (iN (va_up hw 0 bv_38))))) y (.inr (7, [.int (nI p1v_78)])))
          have he_92 : gm_up (gm_up (gm_up (gm_up (gm_up M y (.inr (7, [.int (nI p1v_78)]))) x (.inr (5, [.int (nI k0v_8), .int (nI k1v_9), .int (nI k2v_10), .ref u, .ref v]))) u (.inl (ca 0, 3, .inl (iN (va_up lw 0 av_37))))) v (.inl (ca 0, 3, .inl (iN (va_up hw 0 bv_38))))) u (.inl (ca 0, 3, .inl (iN (va_up (va_up lw 0 av_37) 1 av_76)))) = gm_up (gm_up (gm_up (gm_up M y (.inr (7, [.int (nI p1v_78)]))) x (.inr (5, [.int (nI k0v_8), .int (nI k1v_9), .int (nI k2v_10), .ref u, .ref v]))) u (.inl (ca 0, 3, .inl (iN (va_up (va_up lw 0 av_37) 1 av_76))))) v (.inl (ca 0, 3, .inl (iN (va_up hw 0 bv_38)))) := (gm_swap (Ne.symm huv)).trans (congrArg (fun Z => gm_up Z v (.inl (ca 0, 3, .inl (iN (va_up hw 0 bv_38))))) (gm_up_up _ _ _ _))
          have hP := Eq.mp (congrArg (fun Z => gm_P D cls A N (gm_up Z v (.inl (ca 0, 3, .inl (iN (va_up (va_up hw 0 bv_38) 1 bv_77))))) H) he_92) hP
          have h_93 := (congrFun he_92 _).symm.trans (gm_pass (k := u) (y := .inl (ca 0, 3, .inl (iN (va_up (va_up lw 0 av_37) 1 av_76)))) h_86 (gm_ne h_86 h_89 (fun h => by cases h)))
          have h_94 := (congrFun he_92 _).symm.trans (gm_pass (k := u) (y := .inl (ca 0, 3, .inl (iN (va_up (va_up lw 0 av_37) 1 av_76)))) h_87 (gm_ne h_87 h_89 (fun h => by simp at h)))
          have h_95 := (congrFun he_92 _).symm.trans (gm_pass (k := u) (y := .inl (ca 0, 3, .inl (iN (va_up (va_up lw 0 av_37) 1 av_76)))) h_88 (gm_ne h_88 h_89 (fun h => by cases h)))
          have h_96 := (congrFun he_92 _).symm.trans (gm_pass (k := u) (y := .inl (ca 0, 3, .inl (iN (va_up (va_up lw 0 av_37) 1 av_76)))) h_90 (Ne.symm huv))
          have h_97 := (congrFun he_92 _).symm.trans (gm_pass (k := u) (y := .inl (ca 0, 3, .inl (iN (va_up (va_up lw 0 av_37) 1 av_76)))) h_91 (gm_ne h_91 h_89 (fun h => by cases h)))
          have h_98 := (congrFun he_92 _).symm.trans (gm_up_self (gm_up (gm_up (gm_up (gm_up M y (.inr (7, [.int (nI p1v_78)]))) x (.inr (5, [.int (nI k0v_8), .int (nI k1v_9), .int (nI k2v_10), .ref u, .ref v]))) u (.inl (ca 0, 3, .inl (iN (va_up lw 0 av_37))))) v (.inl (ca 0, 3, .inl (iN (va_up hw 0 bv_38))))) u (.inl (ca 0, 3, .inl (iN (va_up (va_up lw 0 av_37) 1 av_76)))))
          have he_99 : gm_up (gm_up (gm_up (gm_up (gm_up M y (.inr (7, [.int (nI p1v_78)]))) x (.inr (5, [.int (nI k0v_8), .int (nI k1v_9), .int (nI k2v_10), .ref u, .ref v]))) u (.inl (ca 0, 3, .inl (iN (va_up (va_up lw 0 av_37) 1 av_76))))) v (.inl (ca 0, 3, .inl (iN (va_up hw 0 bv_38))))) v (.inl (ca 0, 3, .inl (iN (va_up (va_up hw 0 bv_38) 1 bv_77)))) = gm_up (gm_up (gm_up (gm_up M y (.inr (7, [.int (nI p1v_78)]))) x (.inr (5, [.int (nI k0v_8), .int (nI k1v_9), .int (nI k2v_10), .ref u, .ref v]))) u (.inl (ca 0, 3, .inl (iN (va_up (va_up lw 0 av_37) 1 av_76))))) v (.inl (ca 0, 3, .inl (iN (va_up (va_up hw 0 bv_38) 1 bv_77)))) := gm_up_up _ _ _ _
          have hP := Eq.mp (congrArg (fun Z => gm_P D cls A N (Z) H) he_99) hP
          have hP : gm_P D cls A N (gm_up (gm_up (gm_up (gm_up M y (.inr (7, [.int (nI p1v_78)]))) x (.inr (5, [.int (nI k0v_8), .int (nI k1v_9), .int (nI k2v_10), .ref u, .ref v]))) u (.inl (ca 0, 3, .inl (iN (va_up (va_up lw 0 av_37) 1 av_76))))) v (.inl (ca 0, 3, .inl (iN (va_up (va_up hw 0 bv_38) 1 bv_77))))) H := hP
          have h_100 := (congrFun he_99 _).symm.trans (gm_pass (k := v) (y := .inl (ca 0, 3, .inl (iN (va_up (va_up hw 0 bv_38) 1 bv_77)))) h_93 (gm_ne h_93 h_96 (fun h => by cases h)))
          have h_101 := (congrFun he_99 _).symm.trans (gm_pass (k := v) (y := .inl (ca 0, 3, .inl (iN (va_up (va_up hw 0 bv_38) 1 bv_77)))) h_94 (gm_ne h_94 h_96 (fun h => by simp at h)))
          have h_102 := (congrFun he_99 _).symm.trans (gm_pass (k := v) (y := .inl (ca 0, 3, .inl (iN (va_up (va_up hw 0 bv_38) 1 bv_77)))) h_95 (gm_ne h_95 h_96 (fun h => by cases h)))
          have h_103 := (congrFun he_99 _).symm.trans (gm_pass (k := v) (y := .inl (ca 0, 3, .inl (iN (va_up (va_up hw 0 bv_38) 1 bv_77)))) h_97 (gm_ne h_97 h_96 (fun h => by cases h)))
          have h_104 := (congrFun he_99 _).symm.trans (gm_pass (k := v) (y := .inl (ca 0, 3, .inl (iN (va_up (va_up hw 0 bv_38) 1 bv_77)))) h_98 huv)
          have h_105 := (congrFun he_99 _).symm.trans (gm_up_self (gm_up (gm_up (gm_up (gm_up M y (.inr (7, [.int (nI p1v_78)]))) x (.inr (5, [.int (nI k0v_8), .int (nI k1v_9), .int (nI k2v_10), .ref u, .ref v]))) u (.inl (ca 0, 3, .inl (iN (va_up (va_up lw 0 av_37) 1 av_76))))) v (.inl (ca 0, 3, .inl (iN (va_up hw 0 bv_38))))) v (.inl (ca 0, 3, .inl (iN (va_up (va_up hw 0 bv_38) 1 bv_77)))))
          refine W.eq (g2 := F0 m 41 ls [.int (nI 1)]) rfl ?_
          refine lv_if_eq (tgt := 79) hx hb d_Rr_read_41 (by decide) (fun q => absurd q (by decide)) (fun _ => ?_)
          refine lv_aload_n hx hb d_Rr_read_44 rfl (lv_at hl 0 rfl) ?_
          refine lv_aload_n hx hb d_Rr_read_45 rfl (lv_at hl 1 rfl) ?_
          refine lv_bipush (v := nI 44) hx hb d_Rr_read_46 (by decide) ?_
          refine gc_V (q := (R_Rr, F_Rr, 1)) (n := 2) [.ref z, .int (nI 44)] [] hx hb hml hown hts hK hN hX hP hS (c_Rr_readMark h_103 h_100 h_101 (by omega) htx hcs (by omega) (by omega)) rfl h_103 k_390 k_392 ks_Rr_readMark k_3 k_393 (by decide +kernel) ⟨by decide, by decide⟩ rfl hl.1 rfl (Nat.le_of_ble_eq_true rfl) d_Rr_read_48 ⟨by decide, by decide⟩ (fun r N1 M_106 H locs hw hP hS => ?_)
          obtain ⟨rfl, hw⟩ := hw
          rcases hw with ⟨c_107, rfl, rfl⟩ | ⟨c_108, rfl, rfl⟩
          · skip
            have he_109 : gm_up (gm_up (gm_up (gm_up (gm_up M y (.inr (7, [.int (nI p1v_78)]))) x (.inr (5, [.int (nI k0v_8), .int (nI k1v_9), .int (nI k2v_10), .ref u, .ref v]))) u (.inl (ca 0, 3, .inl (iN (va_up (va_up lw 0 av_37) 1 av_76))))) v (.inl (ca 0, 3, .inl (iN (va_up (va_up hw 0 bv_38) 1 bv_77))))) y (.inr (7, [.int (nI (p1v_78 + 1))])) = gm_up (gm_up (gm_up (gm_up M y (.inr (7, [.int (nI (p1v_78 + 1))]))) x (.inr (5, [.int (nI k0v_8), .int (nI k1v_9), .int (nI k2v_10), .ref u, .ref v]))) u (.inl (ca 0, 3, .inl (iN (va_up (va_up lw 0 av_37) 1 av_76))))) v (.inl (ca 0, 3, .inl (iN (va_up (va_up hw 0 bv_38) 1 bv_77)))) := (gm_swap (gm_ne h_105 h_103 (fun h => by cases h))).trans (congrArg (fun Z => gm_up Z v (.inl (ca 0, 3, .inl (iN (va_up (va_up hw 0 bv_38) 1 bv_77))))) ((gm_swap (gm_ne h_104 h_103 (fun h => by cases h))).trans (congrArg (fun Z => gm_up Z u (.inl (ca 0, 3, .inl (iN (va_up (va_up lw 0 av_37) 1 av_76))))) ((gm_swap (gm_ne h_102 h_103 (fun h => by cases h))).trans (congrArg (fun Z => gm_up Z x (.inr (5, [.int (nI k0v_8), .int (nI k1v_9), .int (nI k2v_10), .ref u, .ref v]))) (gm_up_up _ _ _ _))))))
            have hP := Eq.mp (congrArg (fun Z => gm_P D cls A N Z H) he_109) hP
            have h_110 := (congrFun he_109 _).symm.trans (gm_pass (k := y) (y := .inr (7, [.int (nI (p1v_78 + 1))])) h_100 (gm_ne h_100 h_103 (fun h => by cases h)))
            have h_111 := (congrFun he_109 _).symm.trans (gm_pass (k := y) (y := .inr (7, [.int (nI (p1v_78 + 1))])) h_101 (gm_ne h_101 h_103 (fun h => by cases h)))
            have h_112 := (congrFun he_109 _).symm.trans (gm_pass (k := y) (y := .inr (7, [.int (nI (p1v_78 + 1))])) h_102 (gm_ne h_102 h_103 (fun h => by cases h)))
            have h_113 := (congrFun he_109 _).symm.trans (gm_pass (k := y) (y := .inr (7, [.int (nI (p1v_78 + 1))])) h_104 (gm_ne h_104 h_103 (fun h => by cases h)))
            have h_114 := (congrFun he_109 _).symm.trans (gm_pass (k := y) (y := .inr (7, [.int (nI (p1v_78 + 1))])) h_105 (gm_ne h_105 h_103 (fun h => by cases h)))
            have h_115 := (congrFun he_109 _).symm.trans (gm_up_self (gm_up (gm_up (gm_up (gm_up M y (.inr (7, [.int (nI p1v_78)]))) x (.inr (5, [.int (nI k0v_8), .int (nI k1v_9), .int (nI k2v_10), .ref u, .ref v]))) u (.inl (ca 0, 3, .inl (iN (va_up (va_up lw 0 av_37) 1 av_76))))) v (.inl (ca 0, 3, .inl (iN (va_up (va_up hw 0 bv_38) 1 bv_77))))) y (.inr (7, [.int (nI (p1v_78 + 1))])))
            refine W.eq (g2 := F0 m 51 ls [.int (nI 1)]) rfl ?_
            refine lv_if_eq (tgt := 79) hx hb d_Rr_read_51 (by decide) (fun q => absurd q (by decide)) (fun _ => ?_)
            refine lv_aload_n hx hb d_Rr_read_54 rfl (lv_at hl 0 rfl) ?_
            refine lv_aload_n hx hb d_Rr_read_55 rfl (lv_at hl 1 rfl) ?_
            refine lv_aload_n hx hb d_Rr_read_56 rfl (lv_at hl 2 rfl) ?_
            refine lv_iconst (v := nI 2) hx hb d_Rr_read_57 (by decide) ?_
            refine gc_V (q := (R_Rr, F_Rr, 1)) (n := 3) [.ref z, .ref x, .int (nI 2)] [] hx hb hml hown hts hK hN hX hP hS (c_Rr_readRange h_115 h_110 h_111 h_112 h_113 h_114 (by omega) htx hcs (by omega) huv (va_up_le (va_up_le hlw c_41.1) c_80.1) (va_up_le (va_up_le hhw c_41.2) c_80.2) (by omega) (by omega)) rfl h_115 k_386 k_388 ks_Rr_readRange k_3 k_389 (by decide +kernel) ⟨by decide, by decide⟩ rfl hl.1 rfl (Nat.le_of_ble_eq_true rfl) d_Rr_read_58 ⟨by decide, by decide⟩ (fun r N1 M_116 H locs hw hP hS => ?_)
            obtain ⟨rfl, hw⟩ := hw
            rcases hw with ⟨av_117, bv_118, p1v_119, c_120, c_121, c_122, rfl, rfl⟩ | ⟨p1v_123, c_124, c_125, rfl, rfl⟩
            · skip
              have he_126 : gm_up (gm_up (gm_up (gm_up (gm_up M y (.inr (7, [.int (nI (p1v_78 + 1))]))) x (.inr (5, [.int (nI k0v_8), .int (nI k1v_9), .int (nI k2v_10), .ref u, .ref v]))) u (.inl (ca 0, 3, .inl (iN (va_up (va_up lw 0 av_37) 1 av_76))))) v (.inl (ca 0, 3, .inl (iN (va_up (va_up hw 0 bv_38) 1 bv_77))))) y (.inr (7, [.int (nI p1v_119)])) = gm_up (gm_up (gm_up (gm_up M y (.inr (7, [.int (nI p1v_119)]))) x (.inr (5, [.int (nI k0v_8), .int (nI k1v_9), .int (nI k2v_10), .ref u, .ref v]))) u (.inl (ca 0, 3, .inl (iN (va_up (va_up lw 0 av_37) 1 av_76))))) v (.inl (ca 0, 3, .inl (iN (va_up (va_up hw 0 bv_38) 1 bv_77)))) := (gm_swap (gm_ne h_114 h_115 (fun h => by cases h))).trans (congrArg (fun Z => gm_up Z v (.inl (ca 0, 3, .inl (iN (va_up (va_up hw 0 bv_38) 1 bv_77))))) ((gm_swap (gm_ne h_113 h_115 (fun h => by cases h))).trans (congrArg (fun Z => gm_up Z u (.inl (ca 0, 3, .inl (iN (va_up (va_up lw 0 av_37) 1 av_76))))) ((gm_swap (gm_ne h_112 h_115 (fun h => by cases h))).trans (congrArg (fun Z => gm_up Z x (.inr (5, [.int (nI k0v_8), .int (nI k1v_9), .int (nI k2v_10), .ref u, .ref v]))) (gm_up_up _ _ _ _))))))
              have hP := Eq.mp (congrArg (fun Z => gm_P D cls A N (gm_up (gm_up Z u (.inl (ca 0, 3, .inl (iN (va_up (va_up (va_up lw 0 av_37) 1 av_76) 2 av_117))))) v (.inl (ca 0, 3, .inl (iN (va_up (va_up (va_up hw 0 bv_38) 1 bv_77) 2 bv_118))))) H) he_126) hP
              have h_127 := (congrFun he_126 _).symm.trans (gm_pass (k := y) (y := .inr (7, [.int (nI p1v_119)])) h_110 (gm_ne h_110 h_115 (fun h => by cases h)))
              have h_128 := (congrFun he_126 _).symm.trans (gm_pass (k := y) (y := .inr (7, [.int (nI p1v_119)])) h_111 (gm_ne h_111 h_115 (fun h => by cases h)))
              have h_129 := (congrFun he_126 _).symm.trans (gm_pass (k := y) (y := .inr (7, [.int (nI p1v_119)])) h_112 (gm_ne h_112 h_115 (fun h => by cases h)))
              have h_130 := (congrFun he_126 _).symm.trans (gm_pass (k := y) (y := .inr (7, [.int (nI p1v_119)])) h_113 (gm_ne h_113 h_115 (fun h => by cases h)))
              have h_131 := (congrFun he_126 _).symm.trans (gm_pass (k := y) (y := .inr (7, [.int (nI p1v_119)])) h_114 (gm_ne h_114 h_115 (fun h => by cases h)))
              have h_132 := (congrFun he_126 _).symm.trans (gm_up_self (gm_up (gm_up (gm_up (gm_up M y (.inr (7, [.int (nI (p1v_78 + 1))]))) x (.inr (5, [.int (nI k0v_8), .int (nI k1v_9), .int (nI k2v_10), .ref u, .ref v]))) u (.inl (ca 0, 3, .inl (iN (va_up (va_up lw 0 av_37) 1 av_76))))) v (.inl (ca 0, 3, .inl (iN (va_up (va_up hw 0 bv_38) 1 bv_77))))) y (.inr (7, [.int (nI p1v_119)])))
              have he_133 : gm_up (gm_up (gm_up (gm_up (gm_up M y (.inr (7, [.int (nI p1v_119)]))) x (.inr (5, [.int (nI k0v_8), .int (nI k1v_9), .int (nI k2v_10), .ref u, .ref v]))) u (.inl (ca 0, 3, .inl (iN (va_up (va_up lw 0 av_37) 1 av_76))))) v (.inl (ca 0, 3, .inl (iN (va_up (va_up hw 0 bv_38) 1 bv_77))))) u (.inl (ca 0, 3, .inl (iN (va_up (va_up (va_up lw 0 av_37) 1 av_76) 2 av_117)))) = gm_up (gm_up (gm_up (gm_up M y (.inr (7, [.int (nI p1v_119)]))) x (.inr (5, [.int (nI k0v_8), .int (nI k1v_9), .int (nI k2v_10), .ref u, .ref v]))) u (.inl (ca 0, 3, .inl (iN (va_up (va_up (va_up lw 0 av_37) 1 av_76) 2 av_117))))) v (.inl (ca 0, 3, .inl (iN (va_up (va_up hw 0 bv_38) 1 bv_77)))) := (gm_swap (Ne.symm huv)).trans (congrArg (fun Z => gm_up Z v (.inl (ca 0, 3, .inl (iN (va_up (va_up hw 0 bv_38) 1 bv_77))))) (gm_up_up _ _ _ _))
              have hP := Eq.mp (congrArg (fun Z => gm_P D cls A N (gm_up Z v (.inl (ca 0, 3, .inl (iN (va_up (va_up (va_up hw 0 bv_38) 1 bv_77) 2 bv_118))))) H) he_133) hP
              have h_134 := (congrFun he_133 _).symm.trans (gm_pass (k := u) (y := .inl (ca 0, 3, .inl (iN (va_up (va_up (va_up lw 0 av_37) 1 av_76) 2 av_117)))) h_127 (gm_ne h_127 h_130 (fun h => by cases h)))
              have h_135 := (congrFun he_133 _).symm.trans (gm_pass (k := u) (y := .inl (ca 0, 3, .inl (iN (va_up (va_up (va_up lw 0 av_37) 1 av_76) 2 av_117)))) h_128 (gm_ne h_128 h_130 (fun h => by simp at h)))
              have h_136 := (congrFun he_133 _).symm.trans (gm_pass (k := u) (y := .inl (ca 0, 3, .inl (iN (va_up (va_up (va_up lw 0 av_37) 1 av_76) 2 av_117)))) h_129 (gm_ne h_129 h_130 (fun h => by cases h)))
              have h_137 := (congrFun he_133 _).symm.trans (gm_pass (k := u) (y := .inl (ca 0, 3, .inl (iN (va_up (va_up (va_up lw 0 av_37) 1 av_76) 2 av_117)))) h_131 (Ne.symm huv))
              have h_138 := (congrFun he_133 _).symm.trans (gm_pass (k := u) (y := .inl (ca 0, 3, .inl (iN (va_up (va_up (va_up lw 0 av_37) 1 av_76) 2 av_117)))) h_132 (gm_ne h_132 h_130 (fun h => by cases h)))
              have h_139 := (congrFun he_133 _).symm.trans (gm_up_self (gm_up (gm_up (gm_up (gm_up M y (.inr (7, [.int (nI p1v_119)]))) x (.inr (5, [.int (nI k0v_8), .int (nI k1v_9), .int (nI k2v_10), .ref u, .ref v]))) u (.inl (ca 0, 3, .inl (iN (va_up (va_up lw 0 av_37) 1 av_76))))) v (.inl (ca 0, 3, .inl (iN (va_up (va_up hw 0 bv_38) 1 bv_77))))) u (.inl (ca 0, 3, .inl (iN (va_up (va_up (va_up lw 0 av_37) 1 av_76) 2 av_117)))))
              have he_140 : gm_up (gm_up (gm_up (gm_up (gm_up M y (.inr (7, [.int (nI p1v_119)]))) x (.inr (5, [.int (nI k0v_8), .int (nI k1v_9), .int (nI k2v_10), .ref u, .ref v]))) u (.inl (ca 0, 3, .inl (iN (va_up (va_up (va_up lw 0 av_37) 1 av_76) 2 av_117))))) v (.inl (ca 0, 3, .inl (iN (va_up (va_up hw 0 bv_38) 1 bv_77))))) v (.inl (ca 0, 3, .inl (iN (va_up (va_up (va_up hw 0 bv_38) 1 bv_77) 2 bv_118)))) = gm_up (gm_up (gm_up (gm_up M y (.inr (7, [.int (nI p1v_119)]))) x (.inr (5, [.int (nI k0v_8), .int (nI k1v_9), .int (nI k2v_10), .ref u, .ref v]))) u (.inl (ca 0, 3, .inl (iN (va_up (va_up (va_up lw 0 av_37) 1 av_76) 2 av_117))))) v (.inl (ca 0, 3, .inl (iN (va_up (va_up (va_up hw 0 bv_38) 1 bv_77) 2 bv_118)))) := gm_up_up _ _ _ _
              have hP := Eq.mp (congrArg (fun Z => gm_P D cls A N (Z) H) he_140) hP
              have hP : gm_P D cls A N (gm_up (gm_up (gm_up (gm_up M y (.inr (7, [.int (nI p1v_119)]))) x (.inr (5, [.int (nI k0v_8), .int (nI k1v_9), .int (nI k2v_10), .ref u, .ref v]))) u (.inl (ca 0, 3, .inl (iN (va_up (va_up (va_up lw 0 av_37) 1 av_76) 2 av_117))))) v (.inl (ca 0, 3, .inl (iN (va_up (va_up (va_up hw 0 bv_38) 1 bv_77) 2 bv_118))))) H := hP
              have h_141 := (congrFun he_140 _).symm.trans (gm_pass (k := v) (y := .inl (ca 0, 3, .inl (iN (va_up (va_up (va_up hw 0 bv_38) 1 bv_77) 2 bv_118)))) h_134 (gm_ne h_134 h_137 (fun h => by cases h)))
              have h_142 := (congrFun he_140 _).symm.trans (gm_pass (k := v) (y := .inl (ca 0, 3, .inl (iN (va_up (va_up (va_up hw 0 bv_38) 1 bv_77) 2 bv_118)))) h_135 (gm_ne h_135 h_137 (fun h => by simp at h)))
              have h_143 := (congrFun he_140 _).symm.trans (gm_pass (k := v) (y := .inl (ca 0, 3, .inl (iN (va_up (va_up (va_up hw 0 bv_38) 1 bv_77) 2 bv_118)))) h_136 (gm_ne h_136 h_137 (fun h => by cases h)))
              have h_144 := (congrFun he_140 _).symm.trans (gm_pass (k := v) (y := .inl (ca 0, 3, .inl (iN (va_up (va_up (va_up hw 0 bv_38) 1 bv_77) 2 bv_118)))) h_138 (gm_ne h_138 h_137 (fun h => by cases h)))
              have h_145 := (congrFun he_140 _).symm.trans (gm_pass (k := v) (y := .inl (ca 0, 3, .inl (iN (va_up (va_up (va_up hw 0 bv_38) 1 bv_77) 2 bv_118)))) h_139 huv)
              have h_146 := (congrFun he_140 _).symm.trans (gm_up_self (gm_up (gm_up (gm_up (gm_up M y (.inr (7, [.int (nI p1v_119)]))) x (.inr (5, [.int (nI k0v_8), .int (nI k1v_9), .int (nI k2v_10), .ref u, .ref v]))) u (.inl (ca 0, 3, .inl (iN (va_up (va_up (va_up lw 0 av_37) 1 av_76) 2 av_117))))) v (.inl (ca 0, 3, .inl (iN (va_up (va_up hw 0 bv_38) 1 bv_77))))) v (.inl (ca 0, 3, .inl (iN (va_up (va_up (va_up hw 0 bv_38) 1 bv_77) 2 bv_118)))))
              refine W.eq (g2 := F0 m 61 ls [.int (nI 1)]) rfl ?_
              refine lv_if_eq (tgt := 79) hx hb d_Rr_read_61 (by decide) (fun q => absurd q (by decide)) (fun _ => ?_)
              refine lv_aload_n hx hb d_Rr_read_64 rfl (lv_at hl 0 rfl) ?_
              refine gm_get (C := R_Rr) (T := F_Rr) (n := 1) hx hb htl i_Rr hown hK hP h_144 rfl 0 (by decide) (htl _ k_47) (fun _ h => h) rfl d_Rr_read_65 ?_
              refine lv_aload_n hx hb d_Rr_read_68 rfl (lv_at hl 1 rfl) ?_
              refine gm_get (C := R_Li) (T := F_Li) (n := 2) hx hb htl i_Li hown hK hP h_141 rfl 1 (by decide) (htl _ k_34) (fun _ h => h) rfl d_Rr_read_69 ?_
              refine ln_ne (tgt := 79) hx hb d_Rr_read_72 (by decide) (by omega) (by omega) (fun c_147 => ?_) (fun c_147 => ?_)
              · skip
                refine lv_iconst (v := nI 0) hx hb d_Rr_read_79 (by decide) ?_
                exact gc_zret hx hb hr hlk hP hS d_Rr_read_80 rfl ⟨rfl, Or.inr ⟨(nI k0v_8), (nI k1v_9), (nI k2v_10), (va_up (va_up (va_up lw 0 av_37) 1 av_76) 2 av_117), (va_up (va_up (va_up hw 0 bv_38) 1 bv_77) 2 bv_118), p1v_119, (prs_e c_11 c_12 c_13 c_40 c_66 c_79 c_107 c_120 c_147), (by omega), (va_up_le (va_up_le (va_up_le hlw c_41.1) c_80.1) c_121.1), (va_up_le (va_up_le (va_up_le hhw c_41.2) c_80.2) c_121.2), h_144, h_143, h_145, h_146, (fun z q0 q1 q2 q3 => (gm_up_ne _ _ q3).trans ((gm_up_ne _ _ q2).trans ((gm_up_ne _ _ q1).trans ((gm_up_ne _ _ q0).trans (rfl))))), rfl⟩⟩
              · skip
                refine lv_iconst (v := nI 1) hx hb d_Rr_read_75 (by decide) ?_
                refine lv_goto (tgt := 80) hx hb d_Rr_read_76 (by decide) ?_
                exact gc_zret hx hb hr hlk hP hS d_Rr_read_80 rfl ⟨rfl, Or.inl ⟨k0v_8, k1v_9, k2v_10, av_37, av_76, av_117, bv_38, bv_77, bv_118, p1v_119, (prs_ok c_11 c_12 c_13 c_40 c_66 c_79 c_107 c_120 c_147), ⟨lix_lt c_11, lix_lt c_12, lix_lt c_13, by omega⟩, h_144, h_143, h_145, h_146, (fun z q0 q1 q2 q3 => (gm_up_ne _ _ q3).trans ((gm_up_ne _ _ q2).trans ((gm_up_ne _ _ q1).trans ((gm_up_ne _ _ q0).trans (rfl))))), rfl⟩⟩
            · skip
              have he_148 : gm_up (gm_up (gm_up (gm_up (gm_up M y (.inr (7, [.int (nI (p1v_78 + 1))]))) x (.inr (5, [.int (nI k0v_8), .int (nI k1v_9), .int (nI k2v_10), .ref u, .ref v]))) u (.inl (ca 0, 3, .inl (iN (va_up (va_up lw 0 av_37) 1 av_76))))) v (.inl (ca 0, 3, .inl (iN (va_up (va_up hw 0 bv_38) 1 bv_77))))) y (.inr (7, [.int (nI p1v_123)])) = gm_up (gm_up (gm_up (gm_up M y (.inr (7, [.int (nI p1v_123)]))) x (.inr (5, [.int (nI k0v_8), .int (nI k1v_9), .int (nI k2v_10), .ref u, .ref v]))) u (.inl (ca 0, 3, .inl (iN (va_up (va_up lw 0 av_37) 1 av_76))))) v (.inl (ca 0, 3, .inl (iN (va_up (va_up hw 0 bv_38) 1 bv_77)))) := (gm_swap (gm_ne h_114 h_115 (fun h => by cases h))).trans (congrArg (fun Z => gm_up Z v (.inl (ca 0, 3, .inl (iN (va_up (va_up hw 0 bv_38) 1 bv_77))))) ((gm_swap (gm_ne h_113 h_115 (fun h => by cases h))).trans (congrArg (fun Z => gm_up Z u (.inl (ca 0, 3, .inl (iN (va_up (va_up lw 0 av_37) 1 av_76))))) ((gm_swap (gm_ne h_112 h_115 (fun h => by cases h))).trans (congrArg (fun Z => gm_up Z x (.inr (5, [.int (nI k0v_8), .int (nI k1v_9), .int (nI k2v_10), .ref u, .ref v]))) (gm_up_up _ _ _ _))))))
              have hP := Eq.mp (congrArg (fun Z => gm_P D cls A N Z H) he_148) hP
              have h_149 := (congrFun he_148 _).symm.trans (gm_pass (k := y) (y := .inr (7, [.int (nI p1v_123)])) h_110 (gm_ne h_110 h_115 (fun h => by cases h)))
              have h_150 := (congrFun he_148 _).symm.trans (gm_pass (k := y) (y := .inr (7, [.int (nI p1v_123)])) h_111 (gm_ne h_111 h_115 (fun h => by cases h)))
              have h_151 := (congrFun he_148 _).symm.trans (gm_pass (k := y) (y := .inr (7, [.int (nI p1v_123)])) h_112 (gm_ne h_112 h_115 (fun h => by cases h)))
              have h_152 := (congrFun he_148 _).symm.trans (gm_pass (k := y) (y := .inr (7, [.int (nI p1v_123)])) h_113 (gm_ne h_113 h_115 (fun h => by cases h)))
              have h_153 := (congrFun he_148 _).symm.trans (gm_pass (k := y) (y := .inr (7, [.int (nI p1v_123)])) h_114 (gm_ne h_114 h_115 (fun h => by cases h)))
              have h_154 := (congrFun he_148 _).symm.trans (gm_up_self (gm_up (gm_up (gm_up (gm_up M y (.inr (7, [.int (nI (p1v_78 + 1))]))) x (.inr (5, [.int (nI k0v_8), .int (nI k1v_9), .int (nI k2v_10), .ref u, .ref v]))) u (.inl (ca 0, 3, .inl (iN (va_up (va_up lw 0 av_37) 1 av_76))))) v (.inl (ca 0, 3, .inl (iN (va_up (va_up hw 0 bv_38) 1 bv_77))))) y (.inr (7, [.int (nI p1v_123)])))
              refine W.eq (g2 := F0 m 61 ls [.int (nI 0)]) rfl ?_
              refine lv_if_eq (tgt := 79) hx hb d_Rr_read_61 (by decide) (fun _ => ?_) (fun q => absurd q (by decide))
              refine lv_iconst (v := nI 0) hx hb d_Rr_read_79 (by decide) ?_
              exact gc_zret hx hb hr hlk hP hS d_Rr_read_80 rfl ⟨rfl, Or.inr ⟨(nI k0v_8), (nI k1v_9), (nI k2v_10), (va_up (va_up lw 0 av_37) 1 av_76), (va_up (va_up hw 0 bv_38) 1 bv_77), p1v_123, (prs_r3 c_11 c_12 c_13 c_40 c_66 c_79 c_107 c_124), (by omega), (va_up_le (va_up_le hlw c_41.1) c_80.1), (va_up_le (va_up_le hhw c_41.2) c_80.2), h_154, h_151, h_152, h_153, (fun z q0 q1 q2 q3 => (gm_up_ne _ _ q3).trans ((gm_up_ne _ _ q2).trans ((gm_up_ne _ _ q1).trans ((gm_up_ne _ _ q0).trans (rfl))))), rfl⟩⟩
          · skip
            refine W.eq (g2 := F0 m 51 ls [.int (nI 0)]) rfl ?_
            refine lv_if_eq (tgt := 79) hx hb d_Rr_read_51 (by decide) (fun _ => ?_) (fun q => absurd q (by decide))
            refine lv_iconst (v := nI 0) hx hb d_Rr_read_79 (by decide) ?_
            exact gc_zret hx hb hr hlk hP hS d_Rr_read_80 rfl ⟨rfl, Or.inr ⟨(nI k0v_8), (nI k1v_9), (nI k2v_10), (va_up (va_up lw 0 av_37) 1 av_76), (va_up (va_up hw 0 bv_38) 1 bv_77), p1v_78, (prs_c2 c_11 c_12 c_13 c_40 c_66 c_79 c_108), (by omega), (va_up_le (va_up_le hlw c_41.1) c_80.1), (va_up_le (va_up_le hhw c_41.2) c_80.2), h_103, h_102, h_104, h_105, (fun z q0 q1 q2 q3 => (gm_up_ne _ _ q3).trans ((gm_up_ne _ _ q2).trans ((gm_up_ne _ _ q1).trans ((gm_up_ne _ _ q0).trans (rfl))))), rfl⟩⟩
        · skip
          have he_155 : gm_up (gm_up (gm_up (gm_up (gm_up M y (.inr (7, [.int (nI (p1v_39 + 1))]))) x (.inr (5, [.int (nI k0v_8), .int (nI k1v_9), .int (nI k2v_10), .ref u, .ref v]))) u (.inl (ca 0, 3, .inl (iN (va_up lw 0 av_37))))) v (.inl (ca 0, 3, .inl (iN (va_up hw 0 bv_38))))) y (.inr (7, [.int (nI p1v_82)])) = gm_up (gm_up (gm_up (gm_up M y (.inr (7, [.int (nI p1v_82)]))) x (.inr (5, [.int (nI k0v_8), .int (nI k1v_9), .int (nI k2v_10), .ref u, .ref v]))) u (.inl (ca 0, 3, .inl (iN (va_up lw 0 av_37))))) v (.inl (ca 0, 3, .inl (iN (va_up hw 0 bv_38)))) := (gm_swap (gm_ne h_73 h_74 (fun h => by cases h))).trans (congrArg (fun Z => gm_up Z v (.inl (ca 0, 3, .inl (iN (va_up hw 0 bv_38))))) ((gm_swap (gm_ne h_72 h_74 (fun h => by cases h))).trans (congrArg (fun Z => gm_up Z u (.inl (ca 0, 3, .inl (iN (va_up lw 0 av_37))))) ((gm_swap (gm_ne h_71 h_74 (fun h => by cases h))).trans (congrArg (fun Z => gm_up Z x (.inr (5, [.int (nI k0v_8), .int (nI k1v_9), .int (nI k2v_10), .ref u, .ref v]))) (gm_up_up _ _ _ _))))))
          have hP := Eq.mp (congrArg (fun Z => gm_P D cls A N Z H) he_155) hP
          have h_156 := (congrFun he_155 _).symm.trans (gm_pass (k := y) (y := .inr (7, [.int (nI p1v_82)])) h_69 (gm_ne h_69 h_74 (fun h => by cases h)))
          have h_157 := (congrFun he_155 _).symm.trans (gm_pass (k := y) (y := .inr (7, [.int (nI p1v_82)])) h_70 (gm_ne h_70 h_74 (fun h => by cases h)))
          have h_158 := (congrFun he_155 _).symm.trans (gm_pass (k := y) (y := .inr (7, [.int (nI p1v_82)])) h_71 (gm_ne h_71 h_74 (fun h => by cases h)))
          have h_159 := (congrFun he_155 _).symm.trans (gm_pass (k := y) (y := .inr (7, [.int (nI p1v_82)])) h_72 (gm_ne h_72 h_74 (fun h => by cases h)))
          have h_160 := (congrFun he_155 _).symm.trans (gm_pass (k := y) (y := .inr (7, [.int (nI p1v_82)])) h_73 (gm_ne h_73 h_74 (fun h => by cases h)))
          have h_161 := (congrFun he_155 _).symm.trans (gm_up_self (gm_up (gm_up (gm_up (gm_up M y (.inr (7, [.int (nI (p1v_39 + 1))]))) x (.inr (5, [.int (nI k0v_8), .int (nI k1v_9), .int (nI k2v_10), .ref u, .ref v]))) u (.inl (ca 0, 3, .inl (iN (va_up lw 0 av_37))))) v (.inl (ca 0, 3, .inl (iN (va_up hw 0 bv_38))))) y (.inr (7, [.int (nI p1v_82)])))
          refine W.eq (g2 := F0 m 41 ls [.int (nI 0)]) rfl ?_
          refine lv_if_eq (tgt := 79) hx hb d_Rr_read_41 (by decide) (fun _ => ?_) (fun q => absurd q (by decide))
          refine lv_iconst (v := nI 0) hx hb d_Rr_read_79 (by decide) ?_
          exact gc_zret hx hb hr hlk hP hS d_Rr_read_80 rfl ⟨rfl, Or.inr ⟨(nI k0v_8), (nI k1v_9), (nI k2v_10), (va_up lw 0 av_37), (va_up hw 0 bv_38), p1v_82, (prs_r2 c_11 c_12 c_13 c_40 c_66 c_83), (by omega), (va_up_le hlw c_41.1), (va_up_le hhw c_41.2), h_161, h_158, h_159, h_160, (fun z q0 q1 q2 q3 => (gm_up_ne _ _ q3).trans ((gm_up_ne _ _ q2).trans ((gm_up_ne _ _ q1).trans ((gm_up_ne _ _ q0).trans (rfl))))), rfl⟩⟩
      · skip
        refine W.eq (g2 := F0 m 31 ls [.int (nI 0)]) rfl ?_
        refine lv_if_eq (tgt := 79) hx hb d_Rr_read_31 (by decide) (fun _ => ?_) (fun q => absurd q (by decide))
        refine lv_iconst (v := nI 0) hx hb d_Rr_read_79 (by decide) ?_
        exact gc_zret hx hb hr hlk hP hS d_Rr_read_80 rfl ⟨rfl, Or.inr ⟨(nI k0v_8), (nI k1v_9), (nI k2v_10), (va_up lw 0 av_37), (va_up hw 0 bv_38), p1v_39, (prs_c1 c_11 c_12 c_13 c_40 c_67), (by omega), (va_up_le hlw c_41.1), (va_up_le hhw c_41.2), h_62, h_61, h_63, h_64, (fun z q0 q1 q2 q3 => (gm_up_ne _ _ q3).trans ((gm_up_ne _ _ q2).trans ((gm_up_ne _ _ q1).trans ((gm_up_ne _ _ q0).trans (rfl))))), rfl⟩⟩
    · skip
      have he_162 : gm_up (gm_up (gm_up M y (.inr (7, [.int (nI (0 + 1 + 1 + 1))]))) x (.inr (5, [.int (nI k0v_8), .int (nI k1v_9), .int (nI k2v_10), .ref u, .ref v]))) y (.inr (7, [.int (nI p1v_43)])) = gm_up (gm_up M y (.inr (7, [.int (nI p1v_43)]))) x (.inr (5, [.int (nI k0v_8), .int (nI k1v_9), .int (nI k2v_10), .ref u, .ref v])) := (gm_swap (gm_ne h_35 h_34 (fun h => by cases h))).trans (congrArg (fun Z => gm_up Z x (.inr (5, [.int (nI k0v_8), .int (nI k1v_9), .int (nI k2v_10), .ref u, .ref v]))) (gm_up_up _ _ _ _))
      have hP := Eq.mp (congrArg (fun Z => gm_P D cls A N Z H) he_162) hP
      have h_163 := (congrFun he_162 _).symm.trans (gm_pass (k := y) (y := .inr (7, [.int (nI p1v_43)])) h_30 (gm_ne h_30 h_34 (fun h => by cases h)))
      have h_164 := (congrFun he_162 _).symm.trans (gm_pass (k := y) (y := .inr (7, [.int (nI p1v_43)])) h_31 (gm_ne h_31 h_34 (fun h => by cases h)))
      have h_165 := (congrFun he_162 _).symm.trans (gm_pass (k := y) (y := .inr (7, [.int (nI p1v_43)])) h_32 (gm_ne h_32 h_34 (fun h => by cases h)))
      have h_166 := (congrFun he_162 _).symm.trans (gm_pass (k := y) (y := .inr (7, [.int (nI p1v_43)])) h_33 (gm_ne h_33 h_34 (fun h => by cases h)))
      have h_167 := (congrFun he_162 _).symm.trans (gm_pass (k := y) (y := .inr (7, [.int (nI p1v_43)])) h_35 (gm_ne h_35 h_34 (fun h => by cases h)))
      have h_168 := (congrFun he_162 _).symm.trans (gm_up_self (gm_up (gm_up M y (.inr (7, [.int (nI (0 + 1 + 1 + 1))]))) x (.inr (5, [.int (nI k0v_8), .int (nI k1v_9), .int (nI k2v_10), .ref u, .ref v]))) y (.inr (7, [.int (nI p1v_43)])))
      refine W.eq (g2 := F0 m 21 ls [.int (nI 0)]) rfl ?_
      refine lv_if_eq (tgt := 79) hx hb d_Rr_read_21 (by decide) (fun _ => ?_) (fun q => absurd q (by decide))
      refine lv_iconst (v := nI 0) hx hb d_Rr_read_79 (by decide) ?_
      exact gc_zret hx hb hr hlk hP hS d_Rr_read_80 rfl ⟨rfl, Or.inr ⟨(nI k0v_8), (nI k1v_9), (nI k2v_10), lw, hw, p1v_43, (prs_r1 c_11 c_12 c_13 c_44), (by omega), hlw, hhw, h_168, h_167, h_165, h_166, (fun z q0 q1 q2 q3 => (gm_up_ne _ _ q1).trans ((gm_up_ne _ _ q0).trans (rfl))), rfl⟩⟩
  · skip
    have h_169 := (hfr_22 _ (gm_ne h_1 h_6 (fun h => by cases h)) (gm_ne h_1 h_3 (fun h => by cases h))).trans h_1
    have h_170 := (hfr_22 _ (gm_ne h_2 h_6 (fun h => by cases h)) (gm_ne h_2 h_3 (fun h => by cases h))).trans h_2
    have h_171 := (hfr_22 _ (gm_ne h_4 h_6 (fun h => by cases h)) (gm_ne h_4 h_3 (fun h => by cases h))).trans h_4
    have h_172 := (hfr_22 _ (gm_ne h_5 h_6 (fun h => by cases h)) (gm_ne h_5 h_3 (fun h => by cases h))).trans h_5
    refine W.eq (g2 := F0 m 11 ls [.int (nI 0)]) rfl ?_
    refine lv_if_eq (tgt := 79) hx hb d_Rr_read_11 (by decide) (fun _ => ?_) (fun q => absurd q (by decide))
    refine lv_iconst (v := nI 0) hx hb d_Rr_read_79 (by decide) ?_
    exact gc_zret hx hb hr hlk hP hS d_Rr_read_80 rfl ⟨rfl, Or.inr ⟨b0v_14, b1v_15, b2v_16, lw, hw, p1v_17, (letB_prs c_18), (by omega), hlw, hhw, h_20, h_21, h_171, h_172, (fun z q0 q1 q2 q3 => (hfr_22 z q0 q1).trans ((gm_up_ne _ _ q0).trans (rfl))), rfl⟩⟩
end C19
