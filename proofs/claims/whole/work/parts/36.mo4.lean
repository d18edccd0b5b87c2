section C36
variable {l : Launch} {D : va_G} {ca : Nat → ClassId} {A : Nat → Prop} {G : gG} {N : Nat} {M : gm_M}

def sh3 (a : Nat → Nat) (k j : Nat) : Nat → Nat := fun z => if k * 3 ≤ z ∧ z < j * 3 then a (z + 3) else a z
theorem sh3_0 (a : Nat → Nat) (k : Nat) : sh3 a k k = a := by funext z; unfold sh3; rw [if_neg (by omega)]
theorem sh3_s {f a : Nat → Nat} {k j : Nat} (hf : f = sh3 a k j) (h : k ≤ j) : va_up (va_up (va_up f ((j + 1) * 3 - 3 + 0) (f ((j + 1) * 3 + 0))) ((j + 1) * 3 - 3 + 1) ((va_up f ((j + 1) * 3 - 3 + 0) (f ((j + 1) * 3 + 0))) ((j + 1) * 3 + 1))) ((j + 1) * 3 - 3 + 2) ((va_up (va_up f ((j + 1) * 3 - 3 + 0) (f ((j + 1) * 3 + 0))) ((j + 1) * 3 - 3 + 1) ((va_up f ((j + 1) * 3 - 3 + 0) (f ((j + 1) * 3 + 0))) ((j + 1) * 3 + 1))) ((j + 1) * 3 + 2)) = sh3 a k (j + 1) := by
  subst hf
  funext z
  by_cases q2 : z = (j + 1) * 3 - 3 + 2
  · rw [q2, va_up_self, va_up_ne _ _ (by omega), va_up_ne _ _ (by omega)]; unfold sh3; rw [if_neg (by omega), if_pos (by omega)]; congr 1; omega
  · rw [va_up_ne _ _ q2]
    by_cases q1 : z = (j + 1) * 3 - 3 + 1
    · rw [q1, va_up_self, va_up_ne _ _ (by omega)]; unfold sh3; rw [if_neg (by omega), if_pos (by omega)]; congr 1; omega
    · rw [va_up_ne _ _ q1]
      by_cases q0 : z = (j + 1) * 3 - 3 + 0
      · rw [q0, va_up_self]; unfold sh3; rw [if_neg (by omega), if_pos (by omega)]; congr 1; omega
      · rw [va_up_ne _ _ q0]; unfold sh3
        by_cases z1 : k * 3 ≤ z ∧ z < j * 3
        · rw [if_pos z1, if_pos (by omega)]
        · rw [if_neg z1, if_neg (by omega)]
/-- the reference's rules are the rules -/
def relU (n : Nat) (ru lw hw : Nat → Nat → Nat) (ma mw mp ml mh : Nat → Nat) : Prop := ∀ i, i < n → ma i = ru i 0 ∧ mw i = ru i 1 ∧ mp i = ru i 2 ∧ ml (i * 3) = lw i 0 ∧ ml (i * 3 + 1) = lw i 1 ∧ ml (i * 3 + 2) = lw i 2 ∧ mh (i * 3) = hw i 0 ∧ mh (i * 3 + 1) = hw i 1 ∧ mh (i * 3 + 2) = hw i 2
theorem relU_l {n : Nat} {ru lw hw : Nat → Nat → Nat} {ma mw mp ml mh : Nat → Nat} {i p : Nat} (h : relU n ru lw hw ma mw mp ml mh) (hi : i < n) (hp : p < 3) : ml (i * 3 + p) = lw i p := by
  have := h i hi
  rcases (show p = 0 ∨ p = 1 ∨ p = 2 by omega) with rfl | rfl | rfl
  · exact this.2.2.2.1
  · exact this.2.2.2.2.1
  · exact this.2.2.2.2.2.1
theorem relU_h {n : Nat} {ru lw hw : Nat → Nat → Nat} {ma mw mp ml mh : Nat → Nat} {i p : Nat} (h : relU n ru lw hw ma mw mp ml mh) (hi : i < n) (hp : p < 3) : mh (i * 3 + p) = hw i p := by
  have := h i hi
  rcases (show p = 0 ∨ p = 1 ∨ p = 2 by omega) with rfl | rfl | rfl
  · exact this.2.2.2.2.2.2.1
  · exact this.2.2.2.2.2.2.2.1
  · exact this.2.2.2.2.2.2.2.2
theorem rt_em (y y2 : Int32) (n : Nat) : (∃ k i : Nat, k < n ∧ i < 2 ^ 31 ∧ y = nI (k + 1) ∧ y2 = nI i) ∨ ((¬ ∃ k : Nat, k < n ∧ y = nI (k + 1)) ∨ y2 < 0) := by
  by_cases h : ∃ k : Nat, k < n ∧ y = nI (k + 1)
  · by_cases h2 : y2 < 0
    · exact Or.inr (Or.inr h2)
    · obtain ⟨k, hk, e⟩ := h
      obtain ⟨i, hi, e2⟩ := nI_of h2
      exact Or.inl ⟨k, i, hk, hi, e, e2⟩
  · exact Or.inr (Or.inl h)
def rtP (a d q : Nat) (lw hw : Nat → Nat) : Nat → List Nat
  | 0 => [tc 1 a, tc 2 d, tc 3 q]
  | p + 1 => rtP a d q lw hw p ++ (if p = 0 then [] else [44]) ++ rgx (lw p) (hw p)
theorem rtP_s (a d q : Nat) (lw hw : Nat → Nat) (p : Nat) : rtP a d q lw hw (p + 1) = rtP a d q lw hw p ++ (if p = 0 then [] else [44]) ++ rgx (lw p) (hw p) := rfl
theorem rtP_3 (a d q : Nat) (lw hw : Nat → Nat) : rtP a d q lw hw 3 = rtx a d q lw hw := by
  rw [rtP_s, rtP_s, rtP_s]
  show [tc 1 a, tc 2 d, tc 3 q] ++ [] ++ rgx (lw 0) (hw 0) ++ [44] ++ rgx (lw 1) (hw 1) ++ [44] ++ rgx (lw 2) (hw 2) = _
  unfold rtx
  rw [List.append_nil]
theorem rtP_len (a d q : Nat) (lw hw : Nat → Nat) : ∀ p, (rtP a d q lw hw p).length ≤ 3 + 8 * p := by
  intro p
  induction p with
  | zero => exact Nat.le_refl _
  | succ p ih =>
    rw [rtP_s, List.length_append, List.length_append]
    have := rgx_len (lw p) (hw p)
    split <;> simp only [List.length_nil, List.length_singleton] <;> omega
set_option maxHeartbeats 4000000 in
set_option maxRecDepth 100000 in
theorem c_Mo_withdraw (y : Int32) {h le nr tl ne nf na an tm cn cs bd lt nt wh : Nat} {bp fx fy : Int32} {ma : Nat → Nat} {mw : Nat → Nat} {mp : Nat → Nat} {ml : Nat → Nat} {mh : Nat → Nat} (eh : M h = some (moO h (nI le) bp (nI nr) (nI wh) (nI tl) (nI ne) (nI nf) (nI na) (nI an) (nI tm) (nI cn) (nI cs) (nI bd) (nI lt) (nI nt) fx fy)) (m2 : M (h + 2) = some (.inl (ca 0, 17, .inl (iN ma)))) (m3 : M (h + 3) = some (.inl (ca 0, 17, .inl (iN mw)))) (m4 : M (h + 4) = some (.inl (ca 0, 17, .inl (iN mp)))) (m5 : M (h + 5) = some (.inl (ca 0, 51, .inl (iN ml)))) (m6 : M (h + 6) = some (.inl (ca 0, 51, .inl (iN mh)))) (hnr : nr ≤ 16) : gC l D ca A G y_Mo_withdraw (.code y_Mo_withdraw b_Mo_withdraw 4 (some .int)) ({ frames := 0, cells := 0, slots := 0, locals := 0 }) N M [.ref h, .int y] gm_i (fun (r : Int32) (N1 : Nat) (M1 : gm_M) => N = N1 ∧ (((¬ ∃ k : Nat, k < nr ∧ y = nI (k + 1)) ∧ M = M1 ∧ (-1) = r) ∨ (∃ (k : Nat), (k < nr ∧ y = nI (k + 1)) ∧ M1 h = some (moO h (nI le) bp (nI (nr - 1)) (nI wh) (nI tl) (nI ne) (nI nf) (nI na) (nI an) (nI tm) (nI cn) (nI cs) (nI bd) (nI lt) (nI nt) fx fy) ∧ M1 (h + 2) = some (.inl (ca 0, 17, .inl (iN (shf ma k (nr - 1))))) ∧ M1 (h + 3) = some (.inl (ca 0, 17, .inl (iN (shf mw k (nr - 1))))) ∧ M1 (h + 4) = some (.inl (ca 0, 17, .inl (iN (shf mp k (nr - 1))))) ∧ M1 (h + 5) = some (.inl (ca 0, 51, .inl (iN (sh3 ml k (nr - 1))))) ∧ M1 (h + 6) = some (.inl (ca 0, 51, .inl (iN (sh3 mh k (nr - 1))))) ∧ (∀ z, z ≠ h → z ≠ (h + 2) → z ≠ (h + 3) → z ≠ (h + 4) → z ≠ (h + 5) → z ≠ (h + 6) → M1 z = M z) ∧ nI (nr - 1) = r))) := by
  refine gm_body (by decide) (Nat.le_of_ble_eq_true rfl) (fun p e s m below meth c ls hx hb hr hts hown hlk hml hnm hP hK hN hX hS hl => ?_)
  have htl : ∀ w ∈ LW, w.before _ s = true := fun w h => hts w (List.mem_cons_of_mem _ h)
  have hown : s.vm.findClass "PacketGateModel" = some m.cls := hown
  have hl : lv_has ls 4 [(0, .ref h), (1, .int y)] := hl
  generalize hQ : MQ below _ _ s _ _ A = Q
  rcases Classical.em (∃ k : Nat, k < nr ∧ y = nI (k + 1)) with ⟨k, hk0, rfl⟩ | hno
  · skip
    refine lv_iload_n hx hb d_Mo_withdraw_0 rfl (lv_at hl 1 rfl) ?_
    refine lv_iconst (v := nI 1) hx hb d_Mo_withdraw_1 (by decide) ?_
    refine ln_lt (tgt := 13) hx hb d_Mo_withdraw_2 (by decide) (by omega) (by omega) (fun c_1 => ?_) (fun c_1 => ?_)
    · skip
      refine lv_iconst (v := (-1)) hx hb d_Mo_withdraw_13 (by decide) ?_
      rw [← hQ]
      exact gc_iret hx hb hr hlk hP hS d_Mo_withdraw_14 (by exfalso; omega)
    · skip
      refine lv_iload_n hx hb d_Mo_withdraw_5 rfl (lv_at hl 1 rfl) ?_
      refine lv_aload_n hx hb d_Mo_withdraw_6 rfl (lv_at hl 0 rfl) ?_
      refine gm_get (C := R_Mo) (T := F_Mo) (n := 44) hx hb htl i_Mo hown hK hP eh rfl 8 (by decide) (htl _ k_751) (fun _ h => h) rfl d_Mo_withdraw_7 ?_
      refine ln_le (tgt := 15) hx hb d_Mo_withdraw_10 (by decide) (by omega) (by omega) (fun c_2 => ?_) (fun c_2 => ?_)
      · skip
        refine lv_iload_n hx hb d_Mo_withdraw_15 rfl (lv_at hl 1 rfl) ?_
        refine lv_istore_n (lv' := [(2, .int (nI (k + 1))), (0, .ref h), (1, .int (nI (k + 1)))]) hx hb d_Mo_withdraw_16 rfl hl (by decide) rfl (fun ls hl => ?_)
        have loop_17 : ∀ (fu : Nat) (j : Nat) (av : Nat → Nat) (wv : Nat → Nat) (pv : Nat → Nat) (lv : Nat → Nat) (hv : Nat → Nat) (Mv : gm_M) (ls : Array Slot) (H : Heap) (locs : List Loc), (Mv h = some (moO h (nI le) bp (nI nr) (nI wh) (nI tl) (nI ne) (nI nf) (nI na) (nI an) (nI tm) (nI cn) (nI cs) (nI bd) (nI lt) (nI nt) fx fy)) → (Mv (h + 2) = some (.inl (ca 0, 17, .inl (iN av)))) → (Mv (h + 3) = some (.inl (ca 0, 17, .inl (iN wv)))) → (Mv (h + 4) = some (.inl (ca 0, 17, .inl (iN pv)))) → (Mv (h + 5) = some (.inl (ca 0, 51, .inl (iN lv)))) → (Mv (h + 6) = some (.inl (ca 0, 51, .inl (iN hv)))) → (k ≤ j ∧ j + 1 ≤ nr) → (av = shf ma k j) → (wv = shf mw k j) → (pv = shf mp k j) → (lv = sh3 ml k j) → (hv = sh3 mh k j) → (∀ z, z ≠ (h + 2) → z ≠ (h + 3) → z ≠ (h + 4) → z ≠ (h + 5) → z ≠ (h + 6) → Mv z = M z) → (nr - j) < fu → gm_P D cls A N Mv H → va_S A s.heap H locs → lv_has ls 4 [(0, .ref h), (2, .int (nI (j + 1)))] → W p l e ({ frames := 0, cells := 0, slots := 0, locals := 0 }) s m ([.ref h, .int (nI (k + 1))] : List Value).toArray below meth c H locs (0) (0) Q (F0 m 17 ls []) := by
          intro fu
          induction fu with
          | zero => intro j av wv pv lv hv Mv ls H locs ehv m2v m3v m4v m5v m6v hj hav hwv hpv hlv hhv hfrv hk; exact absurd hk (Nat.not_lt_zero _)
          | succ fu ih_17 =>
            intro j av wv pv lv hv Mv ls H locs ehv m2v m3v m4v m5v m6v hj hav hwv hpv hlv hhv hfrv hk hP hS hl
            refine lv_iload_n hx hb d_Mo_withdraw_17 rfl (lv_at hl 1 rfl) ?_
            refine lv_aload_n hx hb d_Mo_withdraw_18 rfl (lv_at hl 0 rfl) ?_
            refine gm_get (C := R_Mo) (T := F_Mo) (n := 44) hx hb htl i_Mo hown hK hP ehv rfl 8 (by decide) (htl _ k_751) (fun _ h => h) rfl d_Mo_withdraw_19 ?_
            refine ln_ge (tgt := 130) hx hb d_Mo_withdraw_22 (by decide) (by omega) (by omega) (fun c_3 => ?_) (fun c_3 => ?_)
            · skip
              obtain rfl : av = shf ma k (nr - 1) := hav.trans (by rw [show j = nr - 1 from (by omega)])
              obtain rfl : wv = shf mw k (nr - 1) := hwv.trans (by rw [show j = nr - 1 from (by omega)])
              obtain rfl : pv = shf mp k (nr - 1) := hpv.trans (by rw [show j = nr - 1 from (by omega)])
              obtain rfl : lv = sh3 ml k (nr - 1) := hlv.trans (by rw [show j = nr - 1 from (by omega)])
              obtain rfl : hv = sh3 mh k (nr - 1) := hhv.trans (by rw [show j = nr - 1 from (by omega)])
              refine lv_aload_n hx hb d_Mo_withdraw_130 rfl (lv_at hl 0 rfl) ?_
              refine lv_dup hx hb d_Mo_withdraw_131 rfl ?_
              refine gm_get (C := R_Mo) (T := F_Mo) (n := 44) hx hb htl i_Mo hown hK hP ehv rfl 8 (by decide) (htl _ k_751) (fun _ h => h) rfl d_Mo_withdraw_132 ?_
              refine lv_iconst (v := nI 1) hx hb d_Mo_withdraw_135 (by decide) ?_
              refine lv_isub hx hb d_Mo_withdraw_136 ?_
              rw [show (nI nr) - (nI 1) = nI (nr - 1) from pk_sub (by omega)]
              refine gm_put (C := R_Mo) (T := F_Mo) (n := 44) (ty := .int) hx hb htl i_Mo t_Mo tk_Mo n_Mo hown hK hP hS ehv rfl 8 (by decide) (htl _ k_751) (fun _ h => h) rfl (tk_Mo 8 (by decide)) rfl rfl (Nat.le_of_ble_eq_true rfl) d_Mo_withdraw_137 (fun H locs hP hS => ?_)
              have hP : gm_P D cls A N (gm_up Mv h (moO h (nI le) bp (nI (nr - 1)) (nI wh) (nI tl) (nI ne) (nI nf) (nI na) (nI an) (nI tm) (nI cn) (nI cs) (nI bd) (nI lt) (nI nt) fx fy)) H := hP
              have h_4 := gm_pass (k := h) (y := moO h (nI le) bp (nI (nr - 1)) (nI wh) (nI tl) (nI ne) (nI nf) (nI na) (nI an) (nI tm) (nI cn) (nI cs) (nI bd) (nI lt) (nI nt) fx fy) m2v (gm_ne m2v ehv (fun h => by cases h))
              have h_5 := gm_pass (k := h) (y := moO h (nI le) bp (nI (nr - 1)) (nI wh) (nI tl) (nI ne) (nI nf) (nI na) (nI an) (nI tm) (nI cn) (nI cs) (nI bd) (nI lt) (nI nt) fx fy) m3v (gm_ne m3v ehv (fun h => by cases h))
              have h_6 := gm_pass (k := h) (y := moO h (nI le) bp (nI (nr - 1)) (nI wh) (nI tl) (nI ne) (nI nf) (nI na) (nI an) (nI tm) (nI cn) (nI cs) (nI bd) (nI lt) (nI nt) fx fy) m4v (gm_ne m4v ehv (fun h => by cases h))
              have h_7 := gm_pass (k := h) (y := moO h (nI le) bp (nI (nr - 1)) (nI wh) (nI tl) (nI ne) (nI nf) (nI na) (nI an) (nI tm) (nI cn) (nI cs) (nI bd) (nI lt) (nI nt) fx fy) m5v (gm_ne m5v ehv (fun h => by cases h))
              have h_8 := gm_pass (k := h) (y := moO h (nI le) bp (nI (nr - 1)) (nI wh) (nI tl) (nI ne) (nI nf) (nI na) (nI an) (nI tm) (nI cn) (nI cs) (nI bd) (nI lt) (nI nt) fx fy) m6v (gm_ne m6v ehv (fun h => by cases h))
              have h_9 := gm_up_self Mv h (moO h (nI le) bp (nI (nr - 1)) (nI wh) (nI tl) (nI ne) (nI nf) (nI na) (nI an) (nI tm) (nI cn) (nI cs) (nI bd) (nI lt) (nI nt) fx fy)
              refine lv_aload_n hx hb d_Mo_withdraw_140 rfl (lv_at hl 0 rfl) ?_
              refine gm_get (C := R_Mo) (T := F_Mo) (n := 44) hx hb htl i_Mo hown hK hP h_9 rfl 8 (by decide) (htl _ k_751) (fun _ h => h) rfl d_Mo_withdraw_141 ?_
              rw [← hQ]
              exact gc_iret hx hb hr hlk hP hS d_Mo_withdraw_144 ⟨rfl, Or.inr ⟨k, ⟨hk0, rfl⟩, h_9, h_4, h_5, h_6, h_7, h_8, (fun z q0 q1 q2 q3 q4 q5 => (gm_up_ne _ _ q0).trans ((hfrv z q1 q2 q3 q4 q5).trans (rfl))), rfl⟩⟩
            · skip
              refine lv_aload_n hx hb d_Mo_withdraw_25 rfl (lv_at hl 0 rfl) ?_
              refine gm_get (C := R_Mo) (T := F_Mo) (n := 44) hx hb htl i_Mo hown hK hP ehv rfl 3 (by decide) (htl _ k_746) (fun _ h => h) rfl d_Mo_withdraw_26 ?_
              refine lv_iload_n hx hb d_Mo_withdraw_29 rfl (lv_at hl 1 rfl) ?_
              refine lv_iconst (v := nI 1) hx hb d_Mo_withdraw_30 (by decide) ?_
              refine lv_isub hx hb d_Mo_withdraw_31 ?_
              rw [show (nI (j + 1)) - (nI 1) = nI j from pk_sub (by omega)]
              refine lv_aload_n hx hb d_Mo_withdraw_32 rfl (lv_at hl 0 rfl) ?_
              refine gm_get (C := R_Mo) (T := F_Mo) (n := 44) hx hb htl i_Mo hown hK hP ehv rfl 3 (by decide) (htl _ k_746) (fun _ h => h) rfl d_Mo_withdraw_33 ?_
              refine lv_iload_n hx hb d_Mo_withdraw_36 rfl (lv_at hl 1 rfl) ?_
              refine gz_iald hx hb hK hP 0 m2v rfl (by omega) (by omega) d_Mo_withdraw_37 ?_
              refine gz_iast hx hb hK hP hS 0 m2v rfl (by omega) (by omega) d_Mo_withdraw_38 (fun H locs hP hS => ?_)
              have hP : gm_P D cls A N (gm_up Mv (h + 2) (.inl (ca 0, 17, .inl (iN (va_up av j (av (j + 1))))))) H := hP
              have h_10 := gm_pass (k := (h + 2)) (y := .inl (ca 0, 17, .inl (iN (va_up av j (av (j + 1)))))) ehv (gm_ne ehv m2v (fun h => by cases h))
              have h_11 := gm_pass (k := (h + 2)) (y := .inl (ca 0, 17, .inl (iN (va_up av j (av (j + 1)))))) m3v (by omega)
              have h_12 := gm_pass (k := (h + 2)) (y := .inl (ca 0, 17, .inl (iN (va_up av j (av (j + 1)))))) m4v (by omega)
              have h_13 := gm_pass (k := (h + 2)) (y := .inl (ca 0, 17, .inl (iN (va_up av j (av (j + 1)))))) m5v (gm_ne m5v m2v (fun h => by simp at h))
              have h_14 := gm_pass (k := (h + 2)) (y := .inl (ca 0, 17, .inl (iN (va_up av j (av (j + 1)))))) m6v (gm_ne m6v m2v (fun h => by simp at h))
              have h_15 := gm_up_self Mv (h + 2) (.inl (ca 0, 17, .inl (iN (va_up av j (av (j + 1))))))
              refine lv_aload_n hx hb d_Mo_withdraw_39 rfl (lv_at hl 0 rfl) ?_
              refine gm_get (C := R_Mo) (T := F_Mo) (n := 44) hx hb htl i_Mo hown hK hP h_10 rfl 4 (by decide) (htl _ k_747) (fun _ h => h) rfl d_Mo_withdraw_40 ?_
              refine lv_iload_n hx hb d_Mo_withdraw_43 rfl (lv_at hl 1 rfl) ?_
              refine lv_iconst (v := nI 1) hx hb d_Mo_withdraw_44 (by decide) ?_
              refine lv_isub hx hb d_Mo_withdraw_45 ?_
              rw [show (nI (j + 1)) - (nI 1) = nI j from pk_sub (by omega)]
              refine lv_aload_n hx hb d_Mo_withdraw_46 rfl (lv_at hl 0 rfl) ?_
              refine gm_get (C := R_Mo) (T := F_Mo) (n := 44) hx hb htl i_Mo hown hK hP h_10 rfl 4 (by decide) (htl _ k_747) (fun _ h => h) rfl d_Mo_withdraw_47 ?_
              refine lv_iload_n hx hb d_Mo_withdraw_50 rfl (lv_at hl 1 rfl) ?_
              refine gz_iald hx hb hK hP 0 h_11 rfl (by omega) (by omega) d_Mo_withdraw_51 ?_
              refine gz_iast hx hb hK hP hS 0 h_11 rfl (by omega) (by omega) d_Mo_withdraw_52 (fun H locs hP hS => ?_)
              have hP : gm_P D cls A N (gm_up (gm_up Mv (h + 2) (.inl (ca 0, 17, .inl (iN (va_up av j (av (j + 1))))))) (h + 3) (.inl (ca 0, 17, .inl (iN (va_up wv j (wv (j + 1))))))) H := hP
              have h_16 := gm_pass (k := (h + 3)) (y := .inl (ca 0, 17, .inl (iN (va_up wv j (wv (j + 1)))))) h_10 (gm_ne h_10 h_11 (fun h => by cases h))
              have h_17 := gm_pass (k := (h + 3)) (y := .inl (ca 0, 17, .inl (iN (va_up wv j (wv (j + 1)))))) h_12 (by omega)
              have h_18 := gm_pass (k := (h + 3)) (y := .inl (ca 0, 17, .inl (iN (va_up wv j (wv (j + 1)))))) h_13 (gm_ne h_13 h_11 (fun h => by simp at h))
              have h_19 := gm_pass (k := (h + 3)) (y := .inl (ca 0, 17, .inl (iN (va_up wv j (wv (j + 1)))))) h_14 (gm_ne h_14 h_11 (fun h => by simp at h))
              have h_20 := gm_pass (k := (h + 3)) (y := .inl (ca 0, 17, .inl (iN (va_up wv j (wv (j + 1)))))) h_15 (by omega)
              have h_21 := gm_up_self (gm_up Mv (h + 2) (.inl (ca 0, 17, .inl (iN (va_up av j (av (j + 1))))))) (h + 3) (.inl (ca 0, 17, .inl (iN (va_up wv j (wv (j + 1))))))
              refine lv_aload_n hx hb d_Mo_withdraw_53 rfl (lv_at hl 0 rfl) ?_
              refine gm_get (C := R_Mo) (T := F_Mo) (n := 44) hx hb htl i_Mo hown hK hP h_16 rfl 5 (by decide) (htl _ k_748) (fun _ h => h) rfl d_Mo_withdraw_54 ?_
              refine lv_iload_n hx hb d_Mo_withdraw_57 rfl (lv_at hl 1 rfl) ?_
              refine lv_iconst (v := nI 1) hx hb d_Mo_withdraw_58 (by decide) ?_
              refine lv_isub hx hb d_Mo_withdraw_59 ?_
              rw [show (nI (j + 1)) - (nI 1) = nI j from pk_sub (by omega)]
              refine lv_aload_n hx hb d_Mo_withdraw_60 rfl (lv_at hl 0 rfl) ?_
              refine gm_get (C := R_Mo) (T := F_Mo) (n := 44) hx hb htl i_Mo hown hK hP h_16 rfl 5 (by decide) (htl _ k_748) (fun _ h => h) rfl d_Mo_withdraw_61 ?_
              refine lv_iload_n hx hb d_Mo_withdraw_64 rfl (lv_at hl 1 rfl) ?_
              refine gz_iald hx hb hK hP 0 h_17 rfl (by omega) (by omega) d_Mo_withdraw_65 ?_
              refine gz_iast hx hb hK hP hS 0 h_17 rfl (by omega) (by omega) d_Mo_withdraw_66 (fun H locs hP hS => ?_)
              have hP : gm_P D cls A N (gm_up (gm_up (gm_up Mv (h + 2) (.inl (ca 0, 17, .inl (iN (va_up av j (av (j + 1))))))) (h + 3) (.inl (ca 0, 17, .inl (iN (va_up wv j (wv (j + 1))))))) (h + 4) (.inl (ca 0, 17, .inl (iN (va_up pv j (pv (j + 1))))))) H := hP
              have h_22 := gm_pass (k := (h + 4)) (y := .inl (ca 0, 17, .inl (iN (va_up pv j (pv (j + 1)))))) h_16 (gm_ne h_16 h_17 (fun h => by cases h))
              have h_23 := gm_pass (k := (h + 4)) (y := .inl (ca 0, 17, .inl (iN (va_up pv j (pv (j + 1)))))) h_18 (gm_ne h_18 h_17 (fun h => by simp at h))
              have h_24 := gm_pass (k := (h + 4)) (y := .inl (ca 0, 17, .inl (iN (va_up pv j (pv (j + 1)))))) h_19 (gm_ne h_19 h_17 (fun h => by simp at h))
              have h_25 := gm_pass (k := (h + 4)) (y := .inl (ca 0, 17, .inl (iN (va_up pv j (pv (j + 1)))))) h_20 (by omega)
              have h_26 := gm_pass (k := (h + 4)) (y := .inl (ca 0, 17, .inl (iN (va_up pv j (pv (j + 1)))))) h_21 (by omega)
              have h_27 := gm_up_self (gm_up (gm_up Mv (h + 2) (.inl (ca 0, 17, .inl (iN (va_up av j (av (j + 1))))))) (h + 3) (.inl (ca 0, 17, .inl (iN (va_up wv j (wv (j + 1))))))) (h + 4) (.inl (ca 0, 17, .inl (iN (va_up pv j (pv (j + 1))))))
              refine lv_iconst (v := nI 0) hx hb d_Mo_withdraw_67 (by decide) ?_
              refine lv_istore_n (lv' := [(3, .int (nI 0)), (0, .ref h), (2, .int (nI (j + 1)))]) hx hb d_Mo_withdraw_68 rfl hl (by decide) rfl (fun ls hl => ?_)
              refine lv_iload_n hx hb d_Mo_withdraw_69 rfl (lv_at hl 0 rfl) ?_
              refine lv_iconst (v := nI 3) hx hb d_Mo_withdraw_70 (by decide) ?_
              refine lv_icmp_ge (tgt := 124) hx hb d_Mo_withdraw_71 (by decide) (fun q => absurd q (by decide)) (fun _ => ?_)
              refine lv_aload_n hx hb d_Mo_withdraw_74 rfl (lv_at hl 1 rfl) ?_
              refine gm_get (C := R_Mo) (T := F_Mo) (n := 44) hx hb htl i_Mo hown hK hP h_22 rfl 6 (by decide) (htl _ k_749) (fun _ h => h) rfl d_Mo_withdraw_75 ?_
              refine lv_iload_n hx hb d_Mo_withdraw_78 rfl (lv_at hl 2 rfl) ?_
              refine lv_iconst (v := nI 3) hx hb d_Mo_withdraw_79 (by decide) ?_
              refine lv_imul hx hb d_Mo_withdraw_80 ?_
              rw [show (nI (j + 1)) * (nI 3) = nI ((j + 1) * 3) from pk_mul _ _]
              refine lv_iconst (v := nI 3) hx hb d_Mo_withdraw_81 (by decide) ?_
              refine lv_isub hx hb d_Mo_withdraw_82 ?_
              rw [show (nI ((j + 1) * 3)) - (nI 3) = nI (((j + 1) * 3) - 3) from pk_sub (by omega)]
              refine lv_iload_n hx hb d_Mo_withdraw_83 rfl (lv_at hl 0 rfl) ?_
              refine lv_iadd hx hb d_Mo_withdraw_84 ?_
              rw [show (nI (((j + 1) * 3) - 3)) + (nI 0) = nI ((((j + 1) * 3) - 3) + 0) from nI_add _ _]
              refine lv_aload_n hx hb d_Mo_withdraw_85 rfl (lv_at hl 1 rfl) ?_
              refine gm_get (C := R_Mo) (T := F_Mo) (n := 44) hx hb htl i_Mo hown hK hP h_22 rfl 6 (by decide) (htl _ k_749) (fun _ h => h) rfl d_Mo_withdraw_86 ?_
              refine lv_iload_n hx hb d_Mo_withdraw_89 rfl (lv_at hl 2 rfl) ?_
              refine lv_iconst (v := nI 3) hx hb d_Mo_withdraw_90 (by decide) ?_
              refine lv_imul hx hb d_Mo_withdraw_91 ?_
              rw [show (nI (j + 1)) * (nI 3) = nI ((j + 1) * 3) from pk_mul _ _]
              refine lv_iload_n hx hb d_Mo_withdraw_92 rfl (lv_at hl 0 rfl) ?_
              refine lv_iadd hx hb d_Mo_withdraw_93 ?_
              rw [show (nI ((j + 1) * 3)) + (nI 0) = nI (((j + 1) * 3) + 0) from nI_add _ _]
              refine gz_iald hx hb hK hP 0 h_23 rfl (by omega) (by omega) d_Mo_withdraw_94 ?_
              refine gz_iast hx hb hK hP hS 0 h_23 rfl (by omega) (by omega) d_Mo_withdraw_95 (fun H locs hP hS => ?_)
              have hP : gm_P D cls A N (gm_up (gm_up (gm_up (gm_up Mv (h + 2) (.inl (ca 0, 17, .inl (iN (va_up av j (av (j + 1))))))) (h + 3) (.inl (ca 0, 17, .inl (iN (va_up wv j (wv (j + 1))))))) (h + 4) (.inl (ca 0, 17, .inl (iN (va_up pv j (pv (j + 1))))))) (h + 5) (.inl (ca 0, 51, .inl (iN (va_up lv ((((j + 1) * 3) - 3) + 0) (lv (((j + 1) * 3) + 0))))))) H := hP
              have h_28 := gm_pass (k := (h + 5)) (y := .inl (ca 0, 51, .inl (iN (va_up lv ((((j + 1) * 3) - 3) + 0) (lv (((j + 1) * 3) + 0)))))) h_22 (gm_ne h_22 h_23 (fun h => by cases h))
              have h_29 := gm_pass (k := (h + 5)) (y := .inl (ca 0, 51, .inl (iN (va_up lv ((((j + 1) * 3) - 3) + 0) (lv (((j + 1) * 3) + 0)))))) h_24 (by omega)
              have h_30 := gm_pass (k := (h + 5)) (y := .inl (ca 0, 51, .inl (iN (va_up lv ((((j + 1) * 3) - 3) + 0) (lv (((j + 1) * 3) + 0)))))) h_25 (gm_ne h_25 h_23 (fun h => by simp at h))
              have h_31 := gm_pass (k := (h + 5)) (y := .inl (ca 0, 51, .inl (iN (va_up lv ((((j + 1) * 3) - 3) + 0) (lv (((j + 1) * 3) + 0)))))) h_26 (gm_ne h_26 h_23 (fun h => by simp at h))
              have h_32 := gm_pass (k := (h + 5)) (y := .inl (ca 0, 51, .inl (iN (va_up lv ((((j + 1) * 3) - 3) + 0) (lv (((j + 1) * 3) + 0)))))) h_27 (gm_ne h_27 h_23 (fun h => by simp at h))
              have h_33 := gm_up_self (gm_up (gm_up (gm_up Mv (h + 2) (.inl (ca 0, 17, .inl (iN (va_up av j (av (j + 1))))))) (h + 3) (.inl (ca 0, 17, .inl (iN (va_up wv j (wv (j + 1))))))) (h + 4) (.inl (ca 0, 17, .inl (iN (va_up pv j (pv (j + 1))))))) (h + 5) (.inl (ca 0, 51, .inl (iN (va_up lv ((((j + 1) * 3) - 3) + 0) (lv (((j + 1) * 3) + 0))))))
              refine lv_aload_n hx hb d_Mo_withdraw_96 rfl (lv_at hl 1 rfl) ?_
              refine gm_get (C := R_Mo) (T := F_Mo) (n := 44) hx hb htl i_Mo hown hK hP h_28 rfl 7 (by decide) (htl _ k_750) (fun _ h => h) rfl d_Mo_withdraw_97 ?_
              refine lv_iload_n hx hb d_Mo_withdraw_100 rfl (lv_at hl 2 rfl) ?_
              refine lv_iconst (v := nI 3) hx hb d_Mo_withdraw_101 (by decide) ?_
              refine lv_imul hx hb d_Mo_withdraw_102 ?_
              rw [show (nI (j + 1)) * (nI 3) = nI ((j + 1) * 3) from pk_mul _ _]
              refine lv_iconst (v := nI 3) hx hb d_Mo_withdraw_103 (by decide) ?_
              refine lv_isub hx hb d_Mo_withdraw_104 ?_
              rw [show (nI ((j + 1) * 3)) - (nI 3) = nI (((j + 1) * 3) - 3) from pk_sub (by omega)]
              refine lv_iload_n hx hb d_Mo_withdraw_105 rfl (lv_at hl 0 rfl) ?_
              refine lv_iadd hx hb d_Mo_withdraw_106 ?_
              rw [show (nI (((j + 1) * 3) - 3)) + (nI 0) = nI ((((j + 1) * 3) - 3) + 0) from nI_add _ _]
              refine lv_aload_n hx hb d_Mo_withdraw_107 rfl (lv_at hl 1 rfl) ?_
              refine gm_get (C := R_Mo) (T := F_Mo) (n := 44) hx hb htl i_Mo hown hK hP h_28 rfl 7 (by decide) (htl _ k_750) (fun _ h => h) rfl d_Mo_withdraw_108 ?_
              refine lv_iload_n hx hb d_Mo_withdraw_111 rfl (lv_at hl 2 rfl) ?_
              refine lv_iconst (v := nI 3) hx hb d_Mo_withdraw_112 (by decide) ?_
              refine lv_imul hx hb d_Mo_withdraw_113 ?_
              rw [show (nI (j + 1)) * (nI 3) = nI ((j + 1) * 3) from pk_mul _ _]
              refine lv_iload_n hx hb d_Mo_withdraw_114 rfl (lv_at hl 0 rfl) ?_
              refine lv_iadd hx hb d_Mo_withdraw_115 ?_
              rw [show (nI ((j + 1) * 3)) + (nI 0) = nI (((j + 1) * 3) + 0) from nI_add _ _]
              refine gz_iald hx hb hK hP 0 h_29 rfl (by omega) (by omega) d_Mo_withdraw_116 ?_
              refine gz_iast hx hb hK hP hS 0 h_29 rfl (by omega) (by omega) d_Mo_withdraw_117 (fun H locs hP hS => ?_)
              have hP : gm_P D cls A N (gm_up (gm_up (gm_up (gm_up (gm_up Mv (h + 2) (.inl (ca 0, 17, .inl (iN (va_up av j (av (j + 1))))))) (h + 3) (.inl (ca 0, 17, .inl (iN (va_up wv j (wv (j + 1))))))) (h + 4) (.inl (ca 0, 17, .inl (iN (va_up pv j (pv (j + 1))))))) (h + 5) (.inl (ca 0, 51, .inl (iN (va_up lv ((((j + 1) * 3) - 3) + 0) (lv (((j + 1) * 3) + 0))))))) (h + 6) (.inl (ca 0, 51, .inl (iN (va_up hv ((((j + 1) * 3) - 3) + 0) (hv (((j + 1) * 3) + 0))))))) H := hP
              have h_34 := gm_pass (k := (h + 6)) (y := .inl (ca 0, 51, .inl (iN (va_up hv ((((j + 1) * 3) - 3) + 0) (hv (((j + 1) * 3) + 0)))))) h_28 (gm_ne h_28 h_29 (fun h => by cases h))
              have h_35 := gm_pass (k := (h + 6)) (y := .inl (ca 0, 51, .inl (iN (va_up hv ((((j + 1) * 3) - 3) + 0) (hv (((j + 1) * 3) + 0)))))) h_30 (gm_ne h_30 h_29 (fun h => by simp at h))
              have h_36 := gm_pass (k := (h + 6)) (y := .inl (ca 0, 51, .inl (iN (va_up hv ((((j + 1) * 3) - 3) + 0) (hv (((j + 1) * 3) + 0)))))) h_31 (gm_ne h_31 h_29 (fun h => by simp at h))
              have h_37 := gm_pass (k := (h + 6)) (y := .inl (ca 0, 51, .inl (iN (va_up hv ((((j + 1) * 3) - 3) + 0) (hv (((j + 1) * 3) + 0)))))) h_32 (gm_ne h_32 h_29 (fun h => by simp at h))
              have h_38 := gm_pass (k := (h + 6)) (y := .inl (ca 0, 51, .inl (iN (va_up hv ((((j + 1) * 3) - 3) + 0) (hv (((j + 1) * 3) + 0)))))) h_33 (by omega)
              have h_39 := gm_up_self (gm_up (gm_up (gm_up (gm_up Mv (h + 2) (.inl (ca 0, 17, .inl (iN (va_up av j (av (j + 1))))))) (h + 3) (.inl (ca 0, 17, .inl (iN (va_up wv j (wv (j + 1))))))) (h + 4) (.inl (ca 0, 17, .inl (iN (va_up pv j (pv (j + 1))))))) (h + 5) (.inl (ca 0, 51, .inl (iN (va_up lv ((((j + 1) * 3) - 3) + 0) (lv (((j + 1) * 3) + 0))))))) (h + 6) (.inl (ca 0, 51, .inl (iN (va_up hv ((((j + 1) * 3) - 3) + 0) (hv (((j + 1) * 3) + 0))))))
              refine lv_iinc (v := nI 1) (lv' := [(3, .int (nI 1)), (0, .ref h), (2, .int (nI (j + 1)))]) hx hb d_Mo_withdraw_118 hl (k := 0) rfl (by decide) (by decide) rfl (fun ls hl => ?_)
              refine lv_goto (tgt := 69) hx hb d_Mo_withdraw_121 (by decide) ?_
              refine lv_iload_n hx hb d_Mo_withdraw_69 rfl (lv_at hl 0 rfl) ?_
              refine lv_iconst (v := nI 3) hx hb d_Mo_withdraw_70 (by decide) ?_
              refine lv_icmp_ge (tgt := 124) hx hb d_Mo_withdraw_71 (by decide) (fun q => absurd q (by decide)) (fun _ => ?_)
              refine lv_aload_n hx hb d_Mo_withdraw_74 rfl (lv_at hl 1 rfl) ?_
              refine gm_get (C := R_Mo) (T := F_Mo) (n := 44) hx hb htl i_Mo hown hK hP h_34 rfl 6 (by decide) (htl _ k_749) (fun _ h => h) rfl d_Mo_withdraw_75 ?_
              refine lv_iload_n hx hb d_Mo_withdraw_78 rfl (lv_at hl 2 rfl) ?_
              refine lv_iconst (v := nI 3) hx hb d_Mo_withdraw_79 (by decide) ?_
              refine lv_imul hx hb d_Mo_withdraw_80 ?_
              rw [show (nI (j + 1)) * (nI 3) = nI ((j + 1) * 3) from pk_mul _ _]
              refine lv_iconst (v := nI 3) hx hb d_Mo_withdraw_81 (by decide) ?_
              refine lv_isub hx hb d_Mo_withdraw_82 ?_
              rw [show (nI ((j + 1) * 3)) - (nI 3) = nI (((j + 1) * 3) - 3) from pk_sub (by omega)]
              refine lv_iload_n hx hb d_Mo_withdraw_83 rfl (lv_at hl 0 rfl) ?_
              refine lv_iadd hx hb d_Mo_withdraw_84 ?_
              rw [show (nI (((j + 1) * 3) - 3)) + (nI 1) = nI ((((j + 1) * 3) - 3) + 1) from nI_add _ _]
              refine lv_aload_n hx hb d_Mo_withdraw_85 rfl (lv_at hl 1 rfl) ?_
              refine gm_get (C := R_Mo) (T := F_Mo) (n := 44) hx hb htl i_Mo hown hK hP h_34 rfl 6 (by decide) (htl _ k_749) (fun _ h => h) rfl d_Mo_withdraw_86 ?_
              refine lv_iload_n hx hb d_Mo_withdraw_89 rfl (lv_at hl 2 rfl) ?_
              refine lv_iconst (v := nI 3) hx hb d_Mo_withdraw_90 (by decide) ?_
              refine lv_imul hx hb d_Mo_withdraw_91 ?_
              rw [show (nI (j + 1)) * (nI 3) = nI ((j + 1) * 3) from pk_mul _ _]
              refine lv_iload_n hx hb d_Mo_withdraw_92 rfl (lv_at hl 0 rfl) ?_
              refine lv_iadd hx hb d_Mo_withdraw_93 ?_
              rw [show (nI ((j + 1) * 3)) + (nI 1) = nI (((j + 1) * 3) + 1) from nI_add _ _]
              refine gz_iald hx hb hK hP 0 h_38 rfl (by omega) (by omega) d_Mo_withdraw_94 ?_
              refine gz_iast hx hb hK hP hS 0 h_38 rfl (by omega) (by omega) d_Mo_withdraw_95 (fun H locs hP hS => ?_)
              have he_40 : gm_up (gm_up (gm_up (gm_up (gm_up (gm_up Mv (h + 2) (.inl (ca 0, 17, .inl (iN (va_up av j (av (j + 1))))))) (h + 3) (.inl (ca 0, 17, .inl (iN (va_up wv j (wv (j + 1))))))) (h + 4) (.inl (ca 0, 17, .inl (iN (va_up pv j (pv (j + 1))))))) (h + 5) (.inl (ca 0, 51, .inl (iN (va_up lv ((((j + 1) * 3) - 3) + 0) (lv (((j + 1) * 3) + 0))))))) (h + 6) (.inl (ca 0, 51, .inl (iN (va_up hv ((((j + 1) * 3) - 3) + 0) (hv (((j + 1) * 3) + 0))))))) (h + 5) (.inl (ca 0, 51, .inl (iN (va_up (va_up lv ((((j + 1) * 3) - 3) + 0) (lv (((j + 1) * 3) + 0))) ((((j + 1) * 3) - 3) + 1) ((va_up lv ((((j + 1) * 3) - 3) + 0) (lv (((j + 1) * 3) + 0))) (((j + 1) * 3) + 1)))))) = gm_up (gm_up (gm_up (gm_up (gm_up Mv (h + 2) (.inl (ca 0, 17, .inl (iN (va_up av j (av (j + 1))))))) (h + 3) (.inl (ca 0, 17, .inl (iN (va_up wv j (wv (j + 1))))))) (h + 4) (.inl (ca 0, 17, .inl (iN (va_up pv j (pv (j + 1))))))) (h + 5) (.inl (ca 0, 51, .inl (iN (va_up (va_up lv ((((j + 1) * 3) - 3) + 0) (lv (((j + 1) * 3) + 0))) ((((j + 1) * 3) - 3) + 1) ((va_up lv ((((j + 1) * 3) - 3) + 0) (lv (((j + 1) * 3) + 0))) (((j + 1) * 3) + 1))))))) (h + 6) (.inl (ca 0, 51, .inl (iN (va_up hv ((((j + 1) * 3) - 3) + 0) (hv (((j + 1) * 3) + 0)))))) := (gm_swap (by omega)).trans (congrArg (fun Z => gm_up Z (h + 6) (.inl (ca 0, 51, .inl (iN (va_up hv ((((j + 1) * 3) - 3) + 0) (hv (((j + 1) * 3) + 0))))))) (gm_up_up _ _ _ _))
              have hP := Eq.mp (congrArg (fun Z => gm_P D cls A N Z H) he_40) hP
              have h_41 := (congrFun he_40 _).symm.trans (gm_pass (k := (h + 5)) (y := .inl (ca 0, 51, .inl (iN (va_up (va_up lv ((((j + 1) * 3) - 3) + 0) (lv (((j + 1) * 3) + 0))) ((((j + 1) * 3) - 3) + 1) ((va_up lv ((((j + 1) * 3) - 3) + 0) (lv (((j + 1) * 3) + 0))) (((j + 1) * 3) + 1)))))) h_34 (gm_ne h_34 h_38 (fun h => by cases h)))
              have h_42 := (congrFun he_40 _).symm.trans (gm_pass (k := (h + 5)) (y := .inl (ca 0, 51, .inl (iN (va_up (va_up lv ((((j + 1) * 3) - 3) + 0) (lv (((j + 1) * 3) + 0))) ((((j + 1) * 3) - 3) + 1) ((va_up lv ((((j + 1) * 3) - 3) + 0) (lv (((j + 1) * 3) + 0))) (((j + 1) * 3) + 1)))))) h_35 (gm_ne h_35 h_38 (fun h => by simp at h)))
              have h_43 := (congrFun he_40 _).symm.trans (gm_pass (k := (h + 5)) (y := .inl (ca 0, 51, .inl (iN (va_up (va_up lv ((((j + 1) * 3) - 3) + 0) (lv (((j + 1) * 3) + 0))) ((((j + 1) * 3) - 3) + 1) ((va_up lv ((((j + 1) * 3) - 3) + 0) (lv (((j + 1) * 3) + 0))) (((j + 1) * 3) + 1)))))) h_36 (gm_ne h_36 h_38 (fun h => by simp at h)))
              have h_44 := (congrFun he_40 _).symm.trans (gm_pass (k := (h + 5)) (y := .inl (ca 0, 51, .inl (iN (va_up (va_up lv ((((j + 1) * 3) - 3) + 0) (lv (((j + 1) * 3) + 0))) ((((j + 1) * 3) - 3) + 1) ((va_up lv ((((j + 1) * 3) - 3) + 0) (lv (((j + 1) * 3) + 0))) (((j + 1) * 3) + 1)))))) h_37 (gm_ne h_37 h_38 (fun h => by simp at h)))
              have h_45 := (congrFun he_40 _).symm.trans (gm_pass (k := (h + 5)) (y := .inl (ca 0, 51, .inl (iN (va_up (va_up lv ((((j + 1) * 3) - 3) + 0) (lv (((j + 1) * 3) + 0))) ((((j + 1) * 3) - 3) + 1) ((va_up lv ((((j + 1) * 3) - 3) + 0) (lv (((j + 1) * 3) + 0))) (((j + 1) * 3) + 1)))))) h_39 (by omega))
              have h_46 := (congrFun he_40 _).symm.trans (gm_up_self (gm_up (gm_up (gm_up (gm_up (gm_up Mv (h + 2) (.inl (ca 0, 17, .inl (iN (va_up av j (av (j + 1))))))) (h + 3) (.inl (ca 0, 17, .inl (iN (va_up wv j (wv (j + 1))))))) (h + 4) (.inl (ca 0, 17, .inl (iN (va_up pv j (pv (j + 1))))))) (h + 5) (.inl (ca 0, 51, .inl (iN (va_up lv ((((j + 1) * 3) - 3) + 0) (lv (((j + 1) * 3) + 0))))))) (h + 6) (.inl (ca 0, 51, .inl (iN (va_up hv ((((j + 1) * 3) - 3) + 0) (hv (((j + 1) * 3) + 0))))))) (h + 5) (.inl (ca 0, 51, .inl (iN (va_up (va_up lv ((((j + 1) * 3) - 3) + 0) (lv (((j + 1) * 3) + 0))) ((((j + 1) * 3) - 3) + 1) ((va_up lv ((((j + 1) * 3) - 3) + 0) (lv (((j + 1) * 3) + 0))) (((j + 1) * 3) + 1)))))))
              refine lv_aload_n hx hb d_Mo_withdraw_96 rfl (lv_at hl 1 rfl) ?_
              refine gm_get (C := R_Mo) (T := F_Mo) (n := 44) hx hb htl i_Mo hown hK hP h_41 rfl 7 (by decide) (htl _ k_750) (fun _ h => h) rfl d_Mo_withdraw_97 ?_
              refine lv_iload_n hx hb d_Mo_withdraw_100 rfl (lv_at hl 2 rfl) ?_
              refine lv_iconst (v := nI 3) hx hb d_Mo_withdraw_101 (by decide) ?_
              refine lv_imul hx hb d_Mo_withdraw_102 ?_
              rw [show (nI (j + 1)) * (nI 3) = nI ((j + 1) * 3) from pk_mul _ _]
              refine lv_iconst (v := nI 3) hx hb d_Mo_withdraw_103 (by decide) ?_
              refine lv_isub hx hb d_Mo_withdraw_104 ?_
              rw [show (nI ((j + 1) * 3)) - (nI 3) = nI (((j + 1) * 3) - 3) from pk_sub (by omega)]
              refine lv_iload_n hx hb d_Mo_withdraw_105 rfl (lv_at hl 0 rfl) ?_
              refine lv_iadd hx hb d_Mo_withdraw_106 ?_
              rw [show (nI (((j + 1) * 3) - 3)) + (nI 1) = nI ((((j + 1) * 3) - 3) + 1) from nI_add _ _]
              refine lv_aload_n hx hb d_Mo_withdraw_107 rfl (lv_at hl 1 rfl) ?_
              refine gm_get (C := R_Mo) (T := F_Mo) (n := 44) hx hb htl i_Mo hown hK hP h_41 rfl 7 (by decide) (htl _ k_750) (fun _ h => h) rfl d_Mo_withdraw_108 ?_
              refine lv_iload_n hx hb d_Mo_withdraw_111 rfl (lv_at hl 2 rfl) ?_
              refine lv_iconst (v := nI 3) hx hb d_Mo_withdraw_112 (by decide) ?_
              refine lv_imul hx hb d_Mo_withdraw_113 ?_
              rw [show (nI (j + 1)) * (nI 3) = nI ((j + 1) * 3) from pk_mul _ _]
              refine lv_iload_n hx hb d_Mo_withdraw_114 rfl (lv_at hl 0 rfl) ?_
              refine lv_iadd hx hb d_Mo_withdraw_115 ?_
              rw [show (nI ((j + 1) * 3)) + (nI 1) = nI (((j + 1) * 3) + 1) from nI_add _ _]
              refine gz_iald hx hb hK hP 0 h_45 rfl (by omega) (by omega) d_Mo_withdraw_116 ?_
              refine gz_iast hx hb hK hP hS 0 h_45 rfl (by omega) (by omega) d_Mo_withdraw_117 (fun H locs hP hS => ?_)
              have he_47 : gm_up (gm_up (gm_up (gm_up (gm_up (gm_up Mv (h + 2) (.inl (ca 0, 17, .inl (iN (va_up av j (av (j + 1))))))) (h + 3) (.inl (ca 0, 17, .inl (iN (va_up wv j (wv (j + 1))))))) (h + 4) (.inl (ca 0, 17, .inl (iN (va_up pv j (pv (j + 1))))))) (h + 5) (.inl (ca 0, 51, .inl (iN (va_up (va_up lv ((((j + 1) * 3) - 3) + 0) (lv (((j + 1) * 3) + 0))) ((((j + 1) * 3) - 3) + 1) ((va_up lv ((((j + 1) * 3) - 3) + 0) (lv (((j + 1) * 3) + 0))) (((j + 1) * 3) + 1))))))) (h + 6) (.inl (ca 0, 51, .inl (iN (va_up hv ((((j + 1) * 3) - 3) + 0) (hv (((j + 1) * 3) + 0))))))) (h + 6) (.inl (ca 0, 51, .inl (iN (va_up (va_up hv ((((j + 1) * 3) - 3) + 0) (hv (((j + 1) * 3) + 0))) ((((j + 1) * 3) - 3) + 1) ((va_up hv ((((j + 1) * 3) - 3) + 0) (hv (((j + 1) * 3) + 0))) (((j + 1) * 3) + 1)))))) = gm_up (gm_up (gm_up (gm_up (gm_up Mv (h + 2) (.inl (ca 0, 17, .inl (iN (va_up av j (av (j + 1))))))) (h + 3) (.inl (ca 0, 17, .inl (iN (va_up wv j (wv (j + 1))))))) (h + 4) (.inl (ca 0, 17, .inl (iN (va_up pv j (pv (j + 1))))))) (h + 5) (.inl (ca 0, 51, .inl (iN (va_up (va_up lv ((((j + 1) * 3) - 3) + 0) (lv (((j + 1) * 3) + 0))) ((((j + 1) * 3) - 3) + 1) ((va_up lv ((((j + 1) * 3) - 3) + 0) (lv (((j + 1) * 3) + 0))) (((j + 1) * 3) + 1))))))) (h + 6) (.inl (ca 0, 51, .inl (iN (va_up (va_up hv ((((j + 1) * 3) - 3) + 0) (hv (((j + 1) * 3) + 0))) ((((j + 1) * 3) - 3) + 1) ((va_up hv ((((j + 1) * 3) - 3) + 0) (hv (((j + 1) * 3) + 0))) (((j + 1) * 3) + 1)))))) := gm_up_up _ _ _ _
              have hP := Eq.mp (congrArg (fun Z => gm_P D cls A N Z H) he_47) hP
              have h_48 := (congrFun he_47 _).symm.trans (gm_pass (k := (h + 6)) (y := .inl (ca 0, 51, .inl (iN (va_up (va_up hv ((((j + 1) * 3) - 3) + 0) (hv (((j + 1) * 3) + 0))) ((((j + 1) * 3) - 3) + 1) ((va_up hv ((((j + 1) * 3) - 3) + 0) (hv (((j + 1) * 3) + 0))) (((j + 1) * 3) + 1)))))) h_41 (gm_ne h_41 h_45 (fun h => by cases h)))
              have h_49 := (congrFun he_47 _).symm.trans (gm_pass (k := (h + 6)) (y := .inl (ca 0, 51, .inl (iN (va_up (va_up hv ((((j + 1) * 3) - 3) + 0) (hv (((j + 1) * 3) + 0))) ((((j + 1) * 3) - 3) + 1) ((va_up hv ((((j + 1) * 3) - 3) + 0) (hv (((j + 1) * 3) + 0))) (((j + 1) * 3) + 1)))))) h_42 (gm_ne h_42 h_45 (fun h => by simp at h)))
              have h_50 := (congrFun he_47 _).symm.trans (gm_pass (k := (h + 6)) (y := .inl (ca 0, 51, .inl (iN (va_up (va_up hv ((((j + 1) * 3) - 3) + 0) (hv (((j + 1) * 3) + 0))) ((((j + 1) * 3) - 3) + 1) ((va_up hv ((((j + 1) * 3) - 3) + 0) (hv (((j + 1) * 3) + 0))) (((j + 1) * 3) + 1)))))) h_43 (gm_ne h_43 h_45 (fun h => by simp at h)))
              have h_51 := (congrFun he_47 _).symm.trans (gm_pass (k := (h + 6)) (y := .inl (ca 0, 51, .inl (iN (va_up (va_up hv ((((j + 1) * 3) - 3) + 0) (hv (((j + 1) * 3) + 0))) ((((j + 1) * 3) - 3) + 1) ((va_up hv ((((j + 1) * 3) - 3) + 0) (hv (((j + 1) * 3) + 0))) (((j + 1) * 3) + 1)))))) h_44 (gm_ne h_44 h_45 (fun h => by simp at h)))
              have h_52 := (congrFun he_47 _).symm.trans (gm_pass (k := (h + 6)) (y := .inl (ca 0, 51, .inl (iN (va_up (va_up hv ((((j + 1) * 3) - 3) + 0) (hv (((j + 1) * 3) + 0))) ((((j + 1) * 3) - 3) + 1) ((va_up hv ((((j + 1) * 3) - 3) + 0) (hv (((j + 1) * 3) + 0))) (((j + 1) * 3) + 1)))))) h_46 (by omega))
              have h_53 := (congrFun he_47 _).symm.trans (gm_up_self (gm_up (gm_up (gm_up (gm_up (gm_up Mv (h + 2) (.inl (ca 0, 17, .inl (iN (va_up av j (av (j + 1))))))) (h + 3) (.inl (ca 0, 17, .inl (iN (va_up wv j (wv (j + 1))))))) (h + 4) (.inl (ca 0, 17, .inl (iN (va_up pv j (pv (j + 1))))))) (h + 5) (.inl (ca 0, 51, .inl (iN (va_up (va_up lv ((((j + 1) * 3) - 3) + 0) (lv (((j + 1) * 3) + 0))) ((((j + 1) * 3) - 3) + 1) ((va_up lv ((((j + 1) * 3) - 3) + 0) (lv (((j + 1) * 3) + 0))) (((j + 1) * 3) + 1))))))) (h + 6) (.inl (ca 0, 51, .inl (iN (va_up hv ((((j + 1) * 3) - 3) + 0) (hv (((j + 1) * 3) + 0))))))) (h + 6) (.inl (ca 0, 51, .inl (iN (va_up (va_up hv ((((j + 1) * 3) - 3) + 0) (hv (((j + 1) * 3) + 0))) ((((j + 1) * 3) - 3) + 1) ((va_up hv ((((j + 1) * 3) - 3) + 0) (hv (((j + 1) * 3) + 0))) (((j + 1) * 3) + 1)))))))
              refine lv_iinc (v := nI 2) (lv' := [(3, .int (nI 2)), (0, .ref h), (2, .int (nI (j + 1)))]) hx hb d_Mo_withdraw_118 hl (k := 0) rfl (by decide) (by decide) rfl (fun ls hl => ?_)
              refine lv_goto (tgt := 69) hx hb d_Mo_withdraw_121 (by decide) ?_
              refine lv_iload_n hx hb d_Mo_withdraw_69 rfl (lv_at hl 0 rfl) ?_
              refine lv_iconst (v := nI 3) hx hb d_Mo_withdraw_70 (by decide) ?_
              refine lv_icmp_ge (tgt := 124) hx hb d_Mo_withdraw_71 (by decide) (fun q => absurd q (by decide)) (fun _ => ?_)
              refine lv_aload_n hx hb d_Mo_withdraw_74 rfl (lv_at hl 1 rfl) ?_
              refine gm_get (C := R_Mo) (T := F_Mo) (n := 44) hx hb htl i_Mo hown hK hP h_48 rfl 6 (by decide) (htl _ k_749) (fun _ h => h) rfl d_Mo_withdraw_75 ?_
              refine lv_iload_n hx hb d_Mo_withdraw_78 rfl (lv_at hl 2 rfl) ?_
              refine lv_iconst (v := nI 3) hx hb d_Mo_withdraw_79 (by decide) ?_
              refine lv_imul hx hb d_Mo_withdraw_80 ?_
              rw [show (nI (j + 1)) * (nI 3) = nI ((j + 1) * 3) from pk_mul _ _]
              refine lv_iconst (v := nI 3) hx hb d_Mo_withdraw_81 (by decide) ?_
              refine lv_isub hx hb d_Mo_withdraw_82 ?_
              rw [show (nI ((j + 1) * 3)) - (nI 3) = nI (((j + 1) * 3) - 3) from pk_sub (by omega)]
              refine lv_iload_n hx hb d_Mo_withdraw_83 rfl (lv_at hl 0 rfl) ?_
              refine lv_iadd hx hb d_Mo_withdraw_84 ?_
              rw [show (nI (((j + 1) * 3) - 3)) + (nI 2) = nI ((((j + 1) * 3) - 3) + 2) from nI_add _ _]
              refine lv_aload_n hx hb d_Mo_withdraw_85 rfl (lv_at hl 1 rfl) ?_
              refine gm_get (C := R_Mo) (T := F_Mo) (n := 44) hx hb htl i_Mo hown hK hP h_48 rfl 6 (by decide) (htl _ k_749) (fun _ h => h) rfl d_Mo_withdraw_86 ?_
              refine lv_iload_n hx hb d_Mo_withdraw_89 rfl (lv_at hl 2 rfl) ?_
              refine lv_iconst (v := nI 3) hx hb d_Mo_withdraw_90 (by decide) ?_
              refine lv_imul hx hb d_Mo_withdraw_91 ?_
              rw [show (nI (j + 1)) * (nI 3) = nI ((j + 1) * 3) from pk_mul _ _]
              refine lv_iload_n hx hb d_Mo_withdraw_92 rfl (lv_at hl 0 rfl) ?_
              refine lv_iadd hx hb d_Mo_withdraw_93 ?_
              rw [show (nI ((j + 1) * 3)) + (nI 2) = nI (((j + 1) * 3) + 2) from nI_add _ _]
              refine gz_iald hx hb hK hP 0 h_52 rfl (by omega) (by omega) d_Mo_withdraw_94 ?_
              refine gz_iast hx hb hK hP hS 0 h_52 rfl (by omega) (by omega) d_Mo_withdraw_95 (fun H locs hP hS => ?_)
              have he_54 : gm_up (gm_up (gm_up (gm_up (gm_up (gm_up Mv (h + 2) (.inl (ca 0, 17, .inl (iN (va_up av j (av (j + 1))))))) (h + 3) (.inl (ca 0, 17, .inl (iN (va_up wv j (wv (j + 1))))))) (h + 4) (.inl (ca 0, 17, .inl (iN (va_up pv j (pv (j + 1))))))) (h + 5) (.inl (ca 0, 51, .inl (iN (va_up (va_up lv ((((j + 1) * 3) - 3) + 0) (lv (((j + 1) * 3) + 0))) ((((j + 1) * 3) - 3) + 1) ((va_up lv ((((j + 1) * 3) - 3) + 0) (lv (((j + 1) * 3) + 0))) (((j + 1) * 3) + 1))))))) (h + 6) (.inl (ca 0, 51, .inl (iN (va_up (va_up hv ((((j + 1) * 3) - 3) + 0) (hv (((j + 1) * 3) + 0))) ((((j + 1) * 3) - 3) + 1) ((va_up hv ((((j + 1) * 3) - 3) + 0) (hv (((j + 1) * 3) + 0))) (((j + 1) * 3) + 1))))))) (h + 5) (.inl (ca 0, 51, .inl (iN (va_up (va_up (va_up lv ((((j + 1) * 3) - 3) + 0) (lv (((j + 1) * 3) + 0))) ((((j + 1) * 3) - 3) + 1) ((va_up lv ((((j + 1) * 3) - 3) + 0) (lv (((j + 1) * 3) + 0))) (((j + 1) * 3) + 1))) ((((j + 1) * 3) - 3) + 2) ((va_up (va_up lv ((((j + 1) * 3) - 3) + 0) (lv (((j + 1) * 3) + 0))) ((((j + 1) * 3) - 3) + 1) ((va_up lv ((((j + 1) * 3) - 3) + 0) (lv (((j + 1) * 3) + 0))) (((j + 1) * 3) + 1))) (((j + 1) * 3) + 2)))))) = gm_up (gm_up (gm_up (gm_up (gm_up Mv (h + 2) (.inl (ca 0, 17, .inl (iN (va_up av j (av (j + 1))))))) (h + 3) (.inl (ca 0, 17, .inl (iN (va_up wv j (wv (j + 1))))))) (h + 4) (.inl (ca 0, 17, .inl (iN (va_up pv j (pv (j + 1))))))) (h + 5) (.inl (ca 0, 51, .inl (iN (va_up (va_up (va_up lv ((((j + 1) * 3) - 3) + 0) (lv (((j + 1) * 3) + 0))) ((((j + 1) * 3) - 3) + 1) ((va_up lv ((((j + 1) * 3) - 3) + 0) (lv (((j + 1) * 3) + 0))) (((j + 1) * 3) + 1))) ((((j + 1) * 3) - 3) + 2) ((va_up (va_up lv ((((j + 1) * 3) - 3) + 0) (lv (((j + 1) * 3) + 0))) ((((j + 1) * 3) - 3) + 1) ((va_up lv ((((j + 1) * 3) - 3) + 0) (lv (((j + 1) * 3) + 0))) (((j + 1) * 3) + 1))) (((j + 1) * 3) + 2))))))) (h + 6) (.inl (ca 0, 51, .inl (iN (va_up (va_up hv ((((j + 1) * 3) - 3) + 0) (hv (((j + 1) * 3) + 0))) ((((j + 1) * 3) - 3) + 1) ((va_up hv ((((j + 1) * 3) - 3) + 0) (hv (((j + 1) * 3) + 0))) (((j + 1) * 3) + 1)))))) := (gm_swap (by omega)).trans (congrArg (fun Z => gm_up Z (h + 6) (.inl (ca 0, 51, .inl (iN (va_up (va_up hv ((((j + 1) * 3) - 3) + 0) (hv (((j + 1) * 3) + 0))) ((((j + 1) * 3) - 3) + 1) ((va_up hv ((((j + 1) * 3) - 3) + 0) (hv (((j + 1) * 3) + 0))) (((j + 1) * 3) + 1))))))) (gm_up_up _ _ _ _))
              have hP := Eq.mp (congrArg (fun Z => gm_P D cls A N Z H) he_54) hP
              have h_55 := (congrFun he_54 _).symm.trans (gm_pass (k := (h + 5)) (y := .inl (ca 0, 51, .inl (iN (va_up (va_up (va_up lv ((((j + 1) * 3) - 3) + 0) (lv (((j + 1) * 3) + 0))) ((((j + 1) * 3) - 3) + 1) ((va_up lv ((((j + 1) * 3) - 3) + 0) (lv (((j + 1) * 3) + 0))) (((j + 1) * 3) + 1))) ((((j + 1) * 3) - 3) + 2) ((va_up (va_up lv ((((j + 1) * 3) - 3) + 0) (lv (((j + 1) * 3) + 0))) ((((j + 1) * 3) - 3) + 1) ((va_up lv ((((j + 1) * 3) - 3) + 0) (lv (((j + 1) * 3) + 0))) (((j + 1) * 3) + 1))) (((j + 1) * 3) + 2)))))) h_48 (gm_ne h_48 h_52 (fun h => by cases h)))
              have h_56 := (congrFun he_54 _).symm.trans (gm_pass (k := (h + 5)) (y := .inl (ca 0, 51, .inl (iN (va_up (va_up (va_up lv ((((j + 1) * 3) - 3) + 0) (lv (((j + 1) * 3) + 0))) ((((j + 1) * 3) - 3) + 1) ((va_up lv ((((j + 1) * 3) - 3) + 0) (lv (((j + 1) * 3) + 0))) (((j + 1) * 3) + 1))) ((((j + 1) * 3) - 3) + 2) ((va_up (va_up lv ((((j + 1) * 3) - 3) + 0) (lv (((j + 1) * 3) + 0))) ((((j + 1) * 3) - 3) + 1) ((va_up lv ((((j + 1) * 3) - 3) + 0) (lv (((j + 1) * 3) + 0))) (((j + 1) * 3) + 1))) (((j + 1) * 3) + 2)))))) h_49 (gm_ne h_49 h_52 (fun h => by simp at h)))
              have h_57 := (congrFun he_54 _).symm.trans (gm_pass (k := (h + 5)) (y := .inl (ca 0, 51, .inl (iN (va_up (va_up (va_up lv ((((j + 1) * 3) - 3) + 0) (lv (((j + 1) * 3) + 0))) ((((j + 1) * 3) - 3) + 1) ((va_up lv ((((j + 1) * 3) - 3) + 0) (lv (((j + 1) * 3) + 0))) (((j + 1) * 3) + 1))) ((((j + 1) * 3) - 3) + 2) ((va_up (va_up lv ((((j + 1) * 3) - 3) + 0) (lv (((j + 1) * 3) + 0))) ((((j + 1) * 3) - 3) + 1) ((va_up lv ((((j + 1) * 3) - 3) + 0) (lv (((j + 1) * 3) + 0))) (((j + 1) * 3) + 1))) (((j + 1) * 3) + 2)))))) h_50 (gm_ne h_50 h_52 (fun h => by simp at h)))
              have h_58 := (congrFun he_54 _).symm.trans (gm_pass (k := (h + 5)) (y := .inl (ca 0, 51, .inl (iN (va_up (va_up (va_up lv ((((j + 1) * 3) - 3) + 0) (lv (((j + 1) * 3) + 0))) ((((j + 1) * 3) - 3) + 1) ((va_up lv ((((j + 1) * 3) - 3) + 0) (lv (((j + 1) * 3) + 0))) (((j + 1) * 3) + 1))) ((((j + 1) * 3) - 3) + 2) ((va_up (va_up lv ((((j + 1) * 3) - 3) + 0) (lv (((j + 1) * 3) + 0))) ((((j + 1) * 3) - 3) + 1) ((va_up lv ((((j + 1) * 3) - 3) + 0) (lv (((j + 1) * 3) + 0))) (((j + 1) * 3) + 1))) (((j + 1) * 3) + 2)))))) h_51 (gm_ne h_51 h_52 (fun h => by simp at h)))
              have h_59 := (congrFun he_54 _).symm.trans (gm_pass (k := (h + 5)) (y := .inl (ca 0, 51, .inl (iN (va_up (va_up (va_up lv ((((j + 1) * 3) - 3) + 0) (lv (((j + 1) * 3) + 0))) ((((j + 1) * 3) - 3) + 1) ((va_up lv ((((j + 1) * 3) - 3) + 0) (lv (((j + 1) * 3) + 0))) (((j + 1) * 3) + 1))) ((((j + 1) * 3) - 3) + 2) ((va_up (va_up lv ((((j + 1) * 3) - 3) + 0) (lv (((j + 1) * 3) + 0))) ((((j + 1) * 3) - 3) + 1) ((va_up lv ((((j + 1) * 3) - 3) + 0) (lv (((j + 1) * 3) + 0))) (((j + 1) * 3) + 1))) (((j + 1) * 3) + 2)))))) h_53 (by omega))
              have h_60 := (congrFun he_54 _).symm.trans (gm_up_self (gm_up (gm_up (gm_up (gm_up (gm_up Mv (h + 2) (.inl (ca 0, 17, .inl (iN (va_up av j (av (j + 1))))))) (h + 3) (.inl (ca 0, 17, .inl (iN (va_up wv j (wv (j + 1))))))) (h + 4) (.inl (ca 0, 17, .inl (iN (va_up pv j (pv (j + 1))))))) (h + 5) (.inl (ca 0, 51, .inl (iN (va_up (va_up lv ((((j + 1) * 3) - 3) + 0) (lv (((j + 1) * 3) + 0))) ((((j + 1) * 3) - 3) + 1) ((va_up lv ((((j + 1) * 3) - 3) + 0) (lv (((j + 1) * 3) + 0))) (((j + 1) * 3) + 1))))))) (h + 6) (.inl (ca 0, 51, .inl (iN (va_up (va_up hv ((((j + 1) * 3) - 3) + 0) (hv (((j + 1) * 3) + 0))) ((((j + 1) * 3) - 3) + 1) ((va_up hv ((((j + 1) * 3) - 3) + 0) (hv (((j + 1) * 3) + 0))) (((j + 1) * 3) + 1))))))) (h + 5) (.inl (ca 0, 51, .inl (iN (va_up (va_up (va_up lv ((((j + 1) * 3) - 3) + 0) (lv (((j + 1) * 3) + 0))) ((((j + 1) * 3) - 3) + 1) ((va_up lv ((((j + 1) * 3) - 3) + 0) (lv (((j + 1) * 3) + 0))) (((j + 1) * 3) + 1))) ((((j + 1) * 3) - 3) + 2) ((va_up (va_up lv ((((j + 1) * 3) - 3) + 0) (lv (((j + 1) * 3) + 0))) ((((j + 1) * 3) - 3) + 1) ((va_up lv ((((j + 1) * 3) - 3) + 0) (lv (((j + 1) * 3) + 0))) (((j + 1) * 3) + 1))) (((j + 1) * 3) + 2)))))))
              refine lv_aload_n hx hb d_Mo_withdraw_96 rfl (lv_at hl 1 rfl) ?_
              refine gm_get (C := R_Mo) (T := F_Mo) (n := 44) hx hb htl i_Mo hown hK hP h_55 rfl 7 (by decide) (htl _ k_750) (fun _ h => h) rfl d_Mo_withdraw_97 ?_
              refine lv_iload_n hx hb d_Mo_withdraw_100 rfl (lv_at hl 2 rfl) ?_
              refine lv_iconst (v := nI 3) hx hb d_Mo_withdraw_101 (by decide) ?_
              refine lv_imul hx hb d_Mo_withdraw_102 ?_
              rw [show (nI (j + 1)) * (nI 3) = nI ((j + 1) * 3) from pk_mul _ _]
              refine lv_iconst (v := nI 3) hx hb d_Mo_withdraw_103 (by decide) ?_
              refine lv_isub hx hb d_Mo_withdraw_104 ?_
              rw [show (nI ((j + 1) * 3)) - (nI 3) = nI (((j + 1) * 3) - 3) from pk_sub (by omega)]
              refine lv_iload_n hx hb d_Mo_withdraw_105 rfl (lv_at hl 0 rfl) ?_
              refine lv_iadd hx hb d_Mo_withdraw_106 ?_
              rw [show (nI (((j + 1) * 3) - 3)) + (nI 2) = nI ((((j + 1) * 3) - 3) + 2) from nI_add _ _]
              refine lv_aload_n hx hb d_Mo_withdraw_107 rfl (lv_at hl 1 rfl) ?_
              refine gm_get (C := R_Mo) (T := F_Mo) (n := 44) hx hb htl i_Mo hown hK hP h_55 rfl 7 (by decide) (htl _ k_750) (fun _ h => h) rfl d_Mo_withdraw_108 ?_
              refine lv_iload_n hx hb d_Mo_withdraw_111 rfl (lv_at hl 2 rfl) ?_
              refine lv_iconst (v := nI 3) hx hb d_Mo_withdraw_112 (by decide) ?_
              refine lv_imul hx hb d_Mo_withdraw_113 ?_
              rw [show (nI (j + 1)) * (nI 3) = nI ((j + 1) * 3) from pk_mul _ _]
              refine lv_iload_n hx hb d_Mo_withdraw_114 rfl (lv_at hl 0 rfl) ?_
              refine lv_iadd hx hb d_Mo_withdraw_115 ?_
              rw [show (nI ((j + 1) * 3)) + (nI 2) = nI (((j + 1) * 3) + 2) from nI_add _ _]
              refine gz_iald hx hb hK hP 0 h_59 rfl (by omega) (by omega) d_Mo_withdraw_116 ?_
              refine gz_iast hx hb hK hP hS 0 h_59 rfl (by omega) (by omega) d_Mo_withdraw_117 (fun H locs hP hS => ?_)
              have he_61 : gm_up (gm_up (gm_up (gm_up (gm_up (gm_up Mv (h + 2) (.inl (ca 0, 17, .inl (iN (va_up av j (av (j + 1))))))) (h + 3) (.inl (ca 0, 17, .inl (iN (va_up wv j (wv (j + 1))))))) (h + 4) (.inl (ca 0, 17, .inl (iN (va_up pv j (pv (j + 1))))))) (h + 5) (.inl (ca 0, 51, .inl (iN (va_up (va_up (va_up lv ((((j + 1) * 3) - 3) + 0) (lv (((j + 1) * 3) + 0))) ((((j + 1) * 3) - 3) + 1) ((va_up lv ((((j + 1) * 3) - 3) + 0) (lv (((j + 1) * 3) + 0))) (((j + 1) * 3) + 1))) ((((j + 1) * 3) - 3) + 2) ((va_up (va_up lv ((((j + 1) * 3) - 3) + 0) (lv (((j + 1) * 3) + 0))) ((((j + 1) * 3) - 3) + 1) ((va_up lv ((((j + 1) * 3) - 3) + 0) (lv (((j + 1) * 3) + 0))) (((j + 1) * 3) + 1))) (((j + 1) * 3) + 2))))))) (h + 6) (.inl (ca 0, 51, .inl (iN (va_up (va_up hv ((((j + 1) * 3) - 3) + 0) (hv (((j + 1) * 3) + 0))) ((((j + 1) * 3) - 3) + 1) ((va_up hv ((((j + 1) * 3) - 3) + 0) (hv (((j + 1) * 3) + 0))) (((j + 1) * 3) + 1))))))) (h + 6) (.inl (ca 0, 51, .inl (iN (va_up (va_up (va_up hv ((((j + 1) * 3) - 3) + 0) (hv (((j + 1) * 3) + 0))) ((((j + 1) * 3) - 3) + 1) ((va_up hv ((((j + 1) * 3) - 3) + 0) (hv (((j + 1) * 3) + 0))) (((j + 1) * 3) + 1))) ((((j + 1) * 3) - 3) + 2) ((va_up (va_up hv ((((j + 1) * 3) - 3) + 0) (hv (((j + 1) * 3) + 0))) ((((j + 1) * 3) - 3) + 1) ((va_up hv ((((j + 1) * 3) - 3) + 0) (hv (((j + 1) * 3) + 0))) (((j + 1) * 3) + 1))) (((j + 1) * 3) + 2)))))) = gm_up (gm_up (gm_up (gm_up (gm_up Mv (h + 2) (.inl (ca 0, 17, .inl (iN (va_up av j (av (j + 1))))))) (h + 3) (.inl (ca 0, 17, .inl (iN (va_up wv j (wv (j + 1))))))) (h + 4) (.inl (ca 0, 17, .inl (iN (va_up pv j (pv (j + 1))))))) (h + 5) (.inl (ca 0, 51, .inl (iN (va_up (va_up (va_up lv ((((j + 1) * 3) - 3) + 0) (lv (((j + 1) * 3) + 0))) ((((j + 1) * 3) - 3) + 1) ((va_up lv ((((j + 1) * 3) - 3) + 0) (lv (((j + 1) * 3) + 0))) (((j + 1) * 3) + 1))) ((((j + 1) * 3) - 3) + 2) ((va_up (va_up lv ((((j + 1) * 3) - 3) + 0) (lv (((j + 1) * 3) + 0))) ((((j + 1) * 3) - 3) + 1) ((va_up lv ((((j + 1) * 3) - 3) + 0) (lv (((j + 1) * 3) + 0))) (((j + 1) * 3) + 1))) (((j + 1) * 3) + 2))))))) (h + 6) (.inl (ca 0, 51, .inl (iN (va_up (va_up (va_up hv ((((j + 1) * 3) - 3) + 0) (hv (((j + 1) * 3) + 0))) ((((j + 1) * 3) - 3) + 1) ((va_up hv ((((j + 1) * 3) - 3) + 0) (hv (((j + 1) * 3) + 0))) (((j + 1) * 3) + 1))) ((((j + 1) * 3) - 3) + 2) ((va_up (va_up hv ((((j + 1) * 3) - 3) + 0) (hv (((j + 1) * 3) + 0))) ((((j + 1) * 3) - 3) + 1) ((va_up hv ((((j + 1) * 3) - 3) + 0) (hv (((j + 1) * 3) + 0))) (((j + 1) * 3) + 1))) (((j + 1) * 3) + 2)))))) := gm_up_up _ _ _ _
              have hP := Eq.mp (congrArg (fun Z => gm_P D cls A N Z H) he_61) hP
              have h_62 := (congrFun he_61 _).symm.trans (gm_pass (k := (h + 6)) (y := .inl (ca 0, 51, .inl (iN (va_up (va_up (va_up hv ((((j + 1) * 3) - 3) + 0) (hv (((j + 1) * 3) + 0))) ((((j + 1) * 3) - 3) + 1) ((va_up hv ((((j + 1) * 3) - 3) + 0) (hv (((j + 1) * 3) + 0))) (((j + 1) * 3) + 1))) ((((j + 1) * 3) - 3) + 2) ((va_up (va_up hv ((((j + 1) * 3) - 3) + 0) (hv (((j + 1) * 3) + 0))) ((((j + 1) * 3) - 3) + 1) ((va_up hv ((((j + 1) * 3) - 3) + 0) (hv (((j + 1) * 3) + 0))) (((j + 1) * 3) + 1))) (((j + 1) * 3) + 2)))))) h_55 (gm_ne h_55 h_59 (fun h => by cases h)))
              have h_63 := (congrFun he_61 _).symm.trans (gm_pass (k := (h + 6)) (y := .inl (ca 0, 51, .inl (iN (va_up (va_up (va_up hv ((((j + 1) * 3) - 3) + 0) (hv (((j + 1) * 3) + 0))) ((((j + 1) * 3) - 3) + 1) ((va_up hv ((((j + 1) * 3) - 3) + 0) (hv (((j + 1) * 3) + 0))) (((j + 1) * 3) + 1))) ((((j + 1) * 3) - 3) + 2) ((va_up (va_up hv ((((j + 1) * 3) - 3) + 0) (hv (((j + 1) * 3) + 0))) ((((j + 1) * 3) - 3) + 1) ((va_up hv ((((j + 1) * 3) - 3) + 0) (hv (((j + 1) * 3) + 0))) (((j + 1) * 3) + 1))) (((j + 1) * 3) + 2)))))) h_56 (gm_ne h_56 h_59 (fun h => by simp at h)))
              have h_64 := (congrFun he_61 _).symm.trans (gm_pass (k := (h + 6)) (y := .inl (ca 0, 51, .inl (iN (va_up (va_up (va_up hv ((((j + 1) * 3) - 3) + 0) (hv (((j + 1) * 3) + 0))) ((((j + 1) * 3) - 3) + 1) ((va_up hv ((((j + 1) * 3) - 3) + 0) (hv (((j + 1) * 3) + 0))) (((j + 1) * 3) + 1))) ((((j + 1) * 3) - 3) + 2) ((va_up (va_up hv ((((j + 1) * 3) - 3) + 0) (hv (((j + 1) * 3) + 0))) ((((j + 1) * 3) - 3) + 1) ((va_up hv ((((j + 1) * 3) - 3) + 0) (hv (((j + 1) * 3) + 0))) (((j + 1) * 3) + 1))) (((j + 1) * 3) + 2)))))) h_57 (gm_ne h_57 h_59 (fun h => by simp at h)))
              have h_65 := (congrFun he_61 _).symm.trans (gm_pass (k := (h + 6)) (y := .inl (ca 0, 51, .inl (iN (va_up (va_up (va_up hv ((((j + 1) * 3) - 3) + 0) (hv (((j + 1) * 3) + 0))) ((((j + 1) * 3) - 3) + 1) ((va_up hv ((((j + 1) * 3) - 3) + 0) (hv (((j + 1) * 3) + 0))) (((j + 1) * 3) + 1))) ((((j + 1) * 3) - 3) + 2) ((va_up (va_up hv ((((j + 1) * 3) - 3) + 0) (hv (((j + 1) * 3) + 0))) ((((j + 1) * 3) - 3) + 1) ((va_up hv ((((j + 1) * 3) - 3) + 0) (hv (((j + 1) * 3) + 0))) (((j + 1) * 3) + 1))) (((j + 1) * 3) + 2)))))) h_58 (gm_ne h_58 h_59 (fun h => by simp at h)))
              have h_66 := (congrFun he_61 _).symm.trans (gm_pass (k := (h + 6)) (y := .inl (ca 0, 51, .inl (iN (va_up (va_up (va_up hv ((((j + 1) * 3) - 3) + 0) (hv (((j + 1) * 3) + 0))) ((((j + 1) * 3) - 3) + 1) ((va_up hv ((((j + 1) * 3) - 3) + 0) (hv (((j + 1) * 3) + 0))) (((j + 1) * 3) + 1))) ((((j + 1) * 3) - 3) + 2) ((va_up (va_up hv ((((j + 1) * 3) - 3) + 0) (hv (((j + 1) * 3) + 0))) ((((j + 1) * 3) - 3) + 1) ((va_up hv ((((j + 1) * 3) - 3) + 0) (hv (((j + 1) * 3) + 0))) (((j + 1) * 3) + 1))) (((j + 1) * 3) + 2)))))) h_60 (by omega))
              have h_67 := (congrFun he_61 _).symm.trans (gm_up_self (gm_up (gm_up (gm_up (gm_up (gm_up Mv (h + 2) (.inl (ca 0, 17, .inl (iN (va_up av j (av (j + 1))))))) (h + 3) (.inl (ca 0, 17, .inl (iN (va_up wv j (wv (j + 1))))))) (h + 4) (.inl (ca 0, 17, .inl (iN (va_up pv j (pv (j + 1))))))) (h + 5) (.inl (ca 0, 51, .inl (iN (va_up (va_up (va_up lv ((((j + 1) * 3) - 3) + 0) (lv (((j + 1) * 3) + 0))) ((((j + 1) * 3) - 3) + 1) ((va_up lv ((((j + 1) * 3) - 3) + 0) (lv (((j + 1) * 3) + 0))) (((j + 1) * 3) + 1))) ((((j + 1) * 3) - 3) + 2) ((va_up (va_up lv ((((j + 1) * 3) - 3) + 0) (lv (((j + 1) * 3) + 0))) ((((j + 1) * 3) - 3) + 1) ((va_up lv ((((j + 1) * 3) - 3) + 0) (lv (((j + 1) * 3) + 0))) (((j + 1) * 3) + 1))) (((j + 1) * 3) + 2))))))) (h + 6) (.inl (ca 0, 51, .inl (iN (va_up (va_up hv ((((j + 1) * 3) - 3) + 0) (hv (((j + 1) * 3) + 0))) ((((j + 1) * 3) - 3) + 1) ((va_up hv ((((j + 1) * 3) - 3) + 0) (hv (((j + 1) * 3) + 0))) (((j + 1) * 3) + 1))))))) (h + 6) (.inl (ca 0, 51, .inl (iN (va_up (va_up (va_up hv ((((j + 1) * 3) - 3) + 0) (hv (((j + 1) * 3) + 0))) ((((j + 1) * 3) - 3) + 1) ((va_up hv ((((j + 1) * 3) - 3) + 0) (hv (((j + 1) * 3) + 0))) (((j + 1) * 3) + 1))) ((((j + 1) * 3) - 3) + 2) ((va_up (va_up hv ((((j + 1) * 3) - 3) + 0) (hv (((j + 1) * 3) + 0))) ((((j + 1) * 3) - 3) + 1) ((va_up hv ((((j + 1) * 3) - 3) + 0) (hv (((j + 1) * 3) + 0))) (((j + 1) * 3) + 1))) (((j + 1) * 3) + 2)))))))
              refine lv_iinc (v := nI 3) (lv' := [(3, .int (nI 3)), (0, .ref h), (2, .int (nI (j + 1)))]) hx hb d_Mo_withdraw_118 hl (k := 0) rfl (by decide) (by decide) rfl (fun ls hl => ?_)
              refine lv_goto (tgt := 69) hx hb d_Mo_withdraw_121 (by decide) ?_
              refine lv_iload_n hx hb d_Mo_withdraw_69 rfl (lv_at hl 0 rfl) ?_
              refine lv_iconst (v := nI 3) hx hb d_Mo_withdraw_70 (by decide) ?_
              refine lv_icmp_ge (tgt := 124) hx hb d_Mo_withdraw_71 (by decide) (fun _ => ?_) (fun q => absurd q (by decide))
              refine lv_iinc (v := nI (j + 1 + 1)) (lv' := [(2, .int (nI (j + 1 + 1))), (3, .int (nI 3)), (0, .ref h)]) hx hb d_Mo_withdraw_124 hl (k := 2) rfl (nI_1 (j + 1)) (by decide) rfl (fun ls hl => ?_)
              refine lv_goto (tgt := 17) hx hb d_Mo_withdraw_127 (by decide) ?_
              exact ih_17 (j + 1) (va_up av j (av (j + 1))) (va_up wv j (wv (j + 1))) (va_up pv j (pv (j + 1))) (va_up (va_up (va_up lv ((((j + 1) * 3) - 3) + 0) (lv (((j + 1) * 3) + 0))) ((((j + 1) * 3) - 3) + 1) ((va_up lv ((((j + 1) * 3) - 3) + 0) (lv (((j + 1) * 3) + 0))) (((j + 1) * 3) + 1))) ((((j + 1) * 3) - 3) + 2) ((va_up (va_up lv ((((j + 1) * 3) - 3) + 0) (lv (((j + 1) * 3) + 0))) ((((j + 1) * 3) - 3) + 1) ((va_up lv ((((j + 1) * 3) - 3) + 0) (lv (((j + 1) * 3) + 0))) (((j + 1) * 3) + 1))) (((j + 1) * 3) + 2))) (va_up (va_up (va_up hv ((((j + 1) * 3) - 3) + 0) (hv (((j + 1) * 3) + 0))) ((((j + 1) * 3) - 3) + 1) ((va_up hv ((((j + 1) * 3) - 3) + 0) (hv (((j + 1) * 3) + 0))) (((j + 1) * 3) + 1))) ((((j + 1) * 3) - 3) + 2) ((va_up (va_up hv ((((j + 1) * 3) - 3) + 0) (hv (((j + 1) * 3) + 0))) ((((j + 1) * 3) - 3) + 1) ((va_up hv ((((j + 1) * 3) - 3) + 0) (hv (((j + 1) * 3) + 0))) (((j + 1) * 3) + 1))) (((j + 1) * 3) + 2))) _ ls _ _ h_62 h_63 h_64 h_65 h_66 h_67 (by omega) (by rw [hav, shf_at (by omega), shf_s (by omega)]) (by rw [hwv, shf_at (by omega), shf_s (by omega)]) (by rw [hpv, shf_at (by omega), shf_s (by omega)]) (sh3_s hlv (by omega)) (sh3_s hhv (by omega)) (fun z q2 q3 q4 q5 q6 => (gm_up_ne _ _ q6).trans ((gm_up_ne _ _ q5).trans ((gm_up_ne _ _ q4).trans ((gm_up_ne _ _ q3).trans ((gm_up_ne _ _ q2).trans ((hfrv z q2 q3 q4 q5 q6).trans (rfl))))))) (by omega) hP hS (lv_sub hl [2, 0] rfl)
        exact loop_17 (_ + 1) k ma mw mp ml mh _ ls _ _ eh m2 m3 m4 m5 m6 (⟨Nat.le_refl _, by omega⟩) ((shf_0 ma k).symm) ((shf_0 mw k).symm) ((shf_0 mp k).symm) ((sh3_0 ml k).symm) ((sh3_0 mh k).symm) (fun z _ _ _ _ _ => rfl) (Nat.lt_succ_self _) hP hS (lv_sub hl [1, 0] rfl)
      · skip
        refine lv_iconst (v := (-1)) hx hb d_Mo_withdraw_13 (by decide) ?_
        rw [← hQ]
        exact gc_iret hx hb hr hlk hP hS d_Mo_withdraw_14 (by exfalso; omega)
  · skip
    refine lv_iload_n hx hb d_Mo_withdraw_0 rfl (lv_at hl 1 rfl) ?_
    refine lv_iconst (v := nI 1) hx hb d_Mo_withdraw_1 (by decide) ?_
    refine lv_icmp_lt (tgt := 13) hx hb d_Mo_withdraw_2 (by decide) (fun c_68 => ?_) (fun c_68 => ?_)
    · skip
      refine lv_iconst (v := (-1)) hx hb d_Mo_withdraw_13 (by decide) ?_
      rw [← hQ]
      exact gc_iret hx hb hr hlk hP hS d_Mo_withdraw_14 ⟨rfl, Or.inl ⟨hno, rfl, rfl⟩⟩
    · skip
      refine lv_iload_n hx hb d_Mo_withdraw_5 rfl (lv_at hl 1 rfl) ?_
      refine lv_aload_n hx hb d_Mo_withdraw_6 rfl (lv_at hl 0 rfl) ?_
      refine gm_get (C := R_Mo) (T := F_Mo) (n := 44) hx hb htl i_Mo hown hK hP eh rfl 8 (by decide) (htl _ k_751) (fun _ h => h) rfl d_Mo_withdraw_7 ?_
      refine lv_icmp_le (tgt := 15) hx hb d_Mo_withdraw_10 (by decide) (fun c_69 => ?_) (fun c_69 => ?_)
      · exact absurd (lift1 (by omega) ⟨c_68, Int32.not_lt.mpr c_69⟩) hno
      · skip
        refine lv_iconst (v := (-1)) hx hb d_Mo_withdraw_13 (by decide) ?_
        rw [← hQ]
        exact gc_iret hx hb hr hlk hP hS d_Mo_withdraw_14 ⟨rfl, Or.inl ⟨hno, rfl, rfl⟩⟩
set_option maxHeartbeats 4000000 in
set_option maxRecDepth 100000 in
theorem c_Mo_say {h le nr ne nf na an tm cn cs bd lt nt wh : Nat} {bp fx fy : Int32} {mtx : Nat → Nat} {ts : List Nat} {c0 : Nat} (eh : M h = some (moO h (nI le) bp (nI nr) (nI wh) (nI ts.length) (nI ne) (nI nf) (nI na) (nI an) (nI tm) (nI cn) (nI cs) (nI bd) (nI lt) (nI nt) fx fy)) (m9 : M (h + 9) = some (.inl (ca 0, 40, .inl (iN mtx)))) (htx : txM mtx ts) (hroom : ts.length < 40) : gC l D ca A G y_Mo_say (.code y_Mo_say b_Mo_say 2 none) ({ frames := 0, cells := 0, slots := 0, locals := 0 }) N M [.ref h, .int (nI c0)] gm_v (fun (_ : Unit) (N1 : Nat) (M1 : gm_M) => N = N1 ∧ ∃ (gt : Nat → Nat), (txM gt (ts ++ [c0])) ∧ gm_up (gm_up M (h + 9) (.inl (ca 0, 40, .inl (iN gt)))) h (moO h (nI le) bp (nI nr) (nI wh) (nI (ts ++ [c0]).length) (nI ne) (nI nf) (nI na) (nI an) (nI tm) (nI cn) (nI cs) (nI bd) (nI lt) (nI nt) fx fy) = M1) := by
  refine gm_body (by decide) (Nat.le_of_ble_eq_true rfl) (fun p e s m below meth c ls hx hb hr hts hown hlk hml hnm hP hK hN hX hS hl => ?_)
  have htl : ∀ w ∈ LW, w.before _ s = true := fun w h => hts w (List.mem_cons_of_mem _ h)
  have hown : s.vm.findClass "PacketGateModel" = some m.cls := hown
  have hl : lv_has ls 2 [(0, .ref h), (1, .int (nI c0))] := hl
  refine lv_aload_n hx hb d_Mo_say_0 rfl (lv_at hl 0 rfl) ?_
  refine gm_get (C := R_Mo) (T := F_Mo) (n := 44) hx hb htl i_Mo hown hK hP eh rfl 12 (by decide) (htl _ k_755) (fun _ h => h) rfl d_Mo_say_1 ?_
  refine lv_aload_n hx hb d_Mo_say_4 rfl (lv_at hl 0 rfl) ?_
  refine gm_get (C := R_Mo) (T := F_Mo) (n := 44) hx hb htl i_Mo hown hK hP eh rfl 13 (by decide) (htl _ k_756) (fun _ h => h) rfl d_Mo_say_5 ?_
  refine lv_iload_n hx hb d_Mo_say_8 rfl (lv_at hl 1 rfl) ?_
  refine gz_iast hx hb hK hP hS 0 m9 rfl (by omega) (by omega) d_Mo_say_9 (fun H locs hP hS => ?_)
  have hP : gm_P D cls A N (gm_up M (h + 9) (.inl (ca 0, 40, .inl (iN (va_up mtx ts.length c0))))) H := hP
  have h_1 := gm_pass (k := (h + 9)) (y := .inl (ca 0, 40, .inl (iN (va_up mtx ts.length c0)))) eh (gm_ne eh m9 (fun h => by cases h))
  have h_2 := gm_up_self M (h + 9) (.inl (ca 0, 40, .inl (iN (va_up mtx ts.length c0))))
  refine lv_aload_n hx hb d_Mo_say_10 rfl (lv_at hl 0 rfl) ?_
  refine lv_dup hx hb d_Mo_say_11 rfl ?_
  refine gm_get (C := R_Mo) (T := F_Mo) (n := 44) hx hb htl i_Mo hown hK hP h_1 rfl 13 (by decide) (htl _ k_756) (fun _ h => h) rfl d_Mo_say_12 ?_
  refine lv_iconst (v := nI 1) hx hb d_Mo_say_15 (by decide) ?_
  refine lv_iadd hx hb d_Mo_say_16 ?_
  rw [show (nI ts.length) + (nI 1) = nI (ts.length + 1) from nI_add _ _]
  refine gm_put (C := R_Mo) (T := F_Mo) (n := 44) (ty := .int) hx hb htl i_Mo t_Mo tk_Mo n_Mo hown hK hP hS h_1 rfl 13 (by decide) (htl _ k_756) (fun _ h => h) rfl (tk_Mo 13 (by decide)) rfl rfl (Nat.le_of_ble_eq_true rfl) d_Mo_say_17 (fun H locs hP hS => ?_)
  have hP : gm_P D cls A N (gm_up (gm_up M (h + 9) (.inl (ca 0, 40, .inl (iN (va_up mtx ts.length c0))))) h (moO h (nI le) bp (nI nr) (nI wh) (nI (ts.length + 1)) (nI ne) (nI nf) (nI na) (nI an) (nI tm) (nI cn) (nI cs) (nI bd) (nI lt) (nI nt) fx fy)) H := hP
  have h_3 := gm_pass (k := h) (y := moO h (nI le) bp (nI nr) (nI wh) (nI (ts.length + 1)) (nI ne) (nI nf) (nI na) (nI an) (nI tm) (nI cn) (nI cs) (nI bd) (nI lt) (nI nt) fx fy) h_2 (gm_ne h_2 h_1 (fun h => by cases h))
  have h_4 := gm_up_self (gm_up M (h + 9) (.inl (ca 0, 40, .inl (iN (va_up mtx ts.length c0))))) h (moO h (nI le) bp (nI nr) (nI wh) (nI (ts.length + 1)) (nI ne) (nI nf) (nI na) (nI an) (nI tm) (nI cn) (nI cs) (nI bd) (nI lt) (nI nt) fx fy)
  exact gc_vret hx hb hr hlk hP hS d_Mo_say_20 ⟨rfl, va_up mtx ts.length c0, txM_add htx, by rw [List.length_append]; rfl⟩
set_option maxHeartbeats 4000000 in
set_option maxRecDepth 100000 in
theorem c_Mo_sayNumber {h le nr ne nf na an tm cn cs bd lt nt wh : Nat} {bp fx fy : Int32} {mtx : Nat → Nat} {ts : List Nat} {v0 : Nat} (eh : M h = some (moO h (nI le) bp (nI nr) (nI wh) (nI ts.length) (nI ne) (nI nf) (nI na) (nI an) (nI tm) (nI cn) (nI cs) (nI bd) (nI lt) (nI nt) fx fy)) (m9 : M (h + 9) = some (.inl (ca 0, 40, .inl (iN mtx)))) (htx : txM mtx ts) (hroom3 : ts.length + 3 ≤ 40) (hv : v0 ≤ 255) : gC l D ca A G y_Mo_sayNumber (.code y_Mo_sayNumber b_Mo_sayNumber 2 none) ({ frames := 1, cells := 0, slots := 0, locals := 21 }) N M [.ref h, .int (nI v0)] gm_v (fun (_ : Unit) (N1 : Nat) (M1 : gm_M) => N = N1 ∧ ∃ (gt : Nat → Nat), (txM gt (ts ++ digs v0)) ∧ gm_up (gm_up M (h + 9) (.inl (ca 0, 40, .inl (iN gt)))) h (moO h (nI le) bp (nI nr) (nI wh) (nI (ts ++ digs v0).length) (nI ne) (nI nf) (nI na) (nI an) (nI tm) (nI cn) (nI cs) (nI bd) (nI lt) (nI nt) fx fy) = M1) := by
  refine gm_body (by decide) (Nat.le_of_ble_eq_true rfl) (fun p e s m below meth c ls hx hb hr hts hown hlk hml hnm hP hK hN hX hS hl => ?_)
  have htl : ∀ w ∈ LW, w.before _ s = true := fun w h => hts w (List.mem_cons_of_mem _ h)
  have hown : s.vm.findClass "PacketGateModel" = some m.cls := hown
  have hl : lv_has ls 2 [(0, .ref h), (1, .int (nI v0))] := hl
  refine lv_iload_n hx hb d_Mo_sayNumber_0 rfl (lv_at hl 1 rfl) ?_
  refine lv_bipush (v := nI 100) hx hb d_Mo_sayNumber_1 (by decide) ?_
  refine ln_lt (tgt := 17) hx hb d_Mo_sayNumber_3 (by decide) (by omega) (by omega) (fun c_1 => ?_) (fun c_1 => ?_)
  · skip
    refine lv_iload_n hx hb d_Mo_sayNumber_17 rfl (lv_at hl 1 rfl) ?_
    refine lv_bipush (v := nI 10) hx hb d_Mo_sayNumber_18 (by decide) ?_
    refine ln_lt (tgt := 37) hx hb d_Mo_sayNumber_20 (by decide) (by omega) (by omega) (fun c_2 => ?_) (fun c_2 => ?_)
    · skip
      refine lv_aload_n hx hb d_Mo_sayNumber_37 rfl (lv_at hl 0 rfl) ?_
      refine lv_bipush (v := nI 48) hx hb d_Mo_sayNumber_38 (by decide) ?_
      refine lv_iload_n hx hb d_Mo_sayNumber_40 rfl (lv_at hl 1 rfl) ?_
      refine lv_bipush (v := nI 10) hx hb d_Mo_sayNumber_41 (by decide) ?_
      refine lv_irem hx hb d_Mo_sayNumber_43 (by decide) ?_
      rw [show (nI v0) - (nI v0) / (nI 10) * (nI 10) = nI (v0 % 10) from pk_rem (by omega) (by decide) (by decide)]
      refine lv_iadd hx hb d_Mo_sayNumber_44 ?_
      rw [show (nI 48) + (nI (v0 % 10)) = nI (48 + (v0 % 10)) from nI_add _ _]
      refine gc_V (q := (R_Mo, F_Mo, 44)) (n := 1) [.int (nI (48 + (v0 % 10)))] [] hx hb hml hown hts hK hN hX hP hS (c_Mo_say eh m9 htx (by first | omega | (simp only [List.length_append, List.length_singleton]; omega))) rfl eh k_911 k_913 ks_Mo_say k_10 k_914 (by decide +kernel) ⟨by decide, by decide⟩ rfl hl.1 rfl (Nat.le_of_ble_eq_true rfl) d_Mo_sayNumber_45 ⟨by decide, by decide⟩ (fun r N1 M_3 H locs hw hP hS => ?_)
      obtain ⟨rfl, hw⟩ := hw
      obtain ⟨gtv_4, c_5, rfl⟩ := hw
      have h_6 := gm_pass (k := (h + 9)) (y := .inl (ca 0, 40, .inl (iN gtv_4))) eh (gm_ne eh m9 (fun h => by cases h))
      have h_7 := gm_up_self M (h + 9) (.inl (ca 0, 40, .inl (iN gtv_4)))
      have hP : gm_P D cls A N (gm_up (gm_up M (h + 9) (.inl (ca 0, 40, .inl (iN gtv_4)))) h (moO h (nI le) bp (nI nr) (nI wh) (nI (ts ++ [(48 + (v0 % 10))]).length) (nI ne) (nI nf) (nI na) (nI an) (nI tm) (nI cn) (nI cs) (nI bd) (nI lt) (nI nt) fx fy)) H := hP
      have h_8 := gm_pass (k := h) (y := moO h (nI le) bp (nI nr) (nI wh) (nI (ts ++ [(48 + (v0 % 10))]).length) (nI ne) (nI nf) (nI na) (nI an) (nI tm) (nI cn) (nI cs) (nI bd) (nI lt) (nI nt) fx fy) h_7 (gm_ne h_7 h_6 (fun h => by cases h))
      have h_9 := gm_up_self (gm_up M (h + 9) (.inl (ca 0, 40, .inl (iN gtv_4)))) h (moO h (nI le) bp (nI nr) (nI wh) (nI (ts ++ [(48 + (v0 % 10))]).length) (nI ne) (nI nf) (nI na) (nI an) (nI tm) (nI cn) (nI cs) (nI bd) (nI lt) (nI nt) fx fy)
      refine W.eq (g2 := F0 m 48 ls []) rfl ?_
      exact gc_vret hx hb hr hlk hP hS d_Mo_sayNumber_48 (by have he : ts ++ digs v0 = (ts ++ [(48 + (v0 % 10))]) := (by unfold digs; (repeat (first | rw [if_pos (by omega)] | rw [if_neg (by omega)])) <;> simp only [List.append_assoc, List.cons_append, List.nil_append]); rw [he]; exact ⟨rfl, _, c_5, rfl⟩)
    · skip
      refine lv_aload_n hx hb d_Mo_sayNumber_23 rfl (lv_at hl 0 rfl) ?_
      refine lv_bipush (v := nI 48) hx hb d_Mo_sayNumber_24 (by decide) ?_
      refine lv_iload_n hx hb d_Mo_sayNumber_26 rfl (lv_at hl 1 rfl) ?_
      refine lv_bipush (v := nI 10) hx hb d_Mo_sayNumber_27 (by decide) ?_
      refine lv_idiv hx hb d_Mo_sayNumber_29 (by decide) ?_
      rw [show (nI v0) / (nI 10) = nI (v0 / 10) from pk_div (by omega) (by decide) (by decide)]
      refine lv_bipush (v := nI 10) hx hb d_Mo_sayNumber_30 (by decide) ?_
      refine lv_irem hx hb d_Mo_sayNumber_32 (by decide) ?_
      rw [show (nI (v0 / 10)) - (nI (v0 / 10)) / (nI 10) * (nI 10) = nI ((v0 / 10) % 10) from pk_rem (by omega) (by decide) (by decide)]
      refine lv_iadd hx hb d_Mo_sayNumber_33 ?_
      rw [show (nI 48) + (nI ((v0 / 10) % 10)) = nI (48 + ((v0 / 10) % 10)) from nI_add _ _]
      refine gc_V (q := (R_Mo, F_Mo, 44)) (n := 1) [.int (nI (48 + ((v0 / 10) % 10)))] [] hx hb hml hown hts hK hN hX hP hS (c_Mo_say eh m9 htx (by first | omega | (simp only [List.length_append, List.length_singleton]; omega))) rfl eh k_911 k_913 ks_Mo_say k_10 k_914 (by decide +kernel) ⟨by decide, by decide⟩ rfl hl.1 rfl (Nat.le_of_ble_eq_true rfl) d_Mo_sayNumber_34 ⟨by decide, by decide⟩ (fun r N1 M_10 H locs hw hP hS => ?_)
      obtain ⟨rfl, hw⟩ := hw
      obtain ⟨gtv_11, c_12, rfl⟩ := hw
      have h_13 := gm_pass (k := (h + 9)) (y := .inl (ca 0, 40, .inl (iN gtv_11))) eh (gm_ne eh m9 (fun h => by cases h))
      have h_14 := gm_up_self M (h + 9) (.inl (ca 0, 40, .inl (iN gtv_11)))
      have hP : gm_P D cls A N (gm_up (gm_up M (h + 9) (.inl (ca 0, 40, .inl (iN gtv_11)))) h (moO h (nI le) bp (nI nr) (nI wh) (nI (ts ++ [(48 + ((v0 / 10) % 10))]).length) (nI ne) (nI nf) (nI na) (nI an) (nI tm) (nI cn) (nI cs) (nI bd) (nI lt) (nI nt) fx fy)) H := hP
      have h_15 := gm_pass (k := h) (y := moO h (nI le) bp (nI nr) (nI wh) (nI (ts ++ [(48 + ((v0 / 10) % 10))]).length) (nI ne) (nI nf) (nI na) (nI an) (nI tm) (nI cn) (nI cs) (nI bd) (nI lt) (nI nt) fx fy) h_14 (gm_ne h_14 h_13 (fun h => by cases h))
      have h_16 := gm_up_self (gm_up M (h + 9) (.inl (ca 0, 40, .inl (iN gtv_11)))) h (moO h (nI le) bp (nI nr) (nI wh) (nI (ts ++ [(48 + ((v0 / 10) % 10))]).length) (nI ne) (nI nf) (nI na) (nI an) (nI tm) (nI cn) (nI cs) (nI bd) (nI lt) (nI nt) fx fy)
      refine W.eq (g2 := F0 m 37 ls []) rfl ?_
      refine lv_aload_n hx hb d_Mo_sayNumber_37 rfl (lv_at hl 0 rfl) ?_
      refine lv_bipush (v := nI 48) hx hb d_Mo_sayNumber_38 (by decide) ?_
      refine lv_iload_n hx hb d_Mo_sayNumber_40 rfl (lv_at hl 1 rfl) ?_
      refine lv_bipush (v := nI 10) hx hb d_Mo_sayNumber_41 (by decide) ?_
      refine lv_irem hx hb d_Mo_sayNumber_43 (by decide) ?_
      rw [show (nI v0) - (nI v0) / (nI 10) * (nI 10) = nI (v0 % 10) from pk_rem (by omega) (by decide) (by decide)]
      refine lv_iadd hx hb d_Mo_sayNumber_44 ?_
      rw [show (nI 48) + (nI (v0 % 10)) = nI (48 + (v0 % 10)) from nI_add _ _]
      refine gc_V (q := (R_Mo, F_Mo, 44)) (n := 1) [.int (nI (48 + (v0 % 10)))] [] hx hb hml hown hts hK hN hX hP hS (c_Mo_say h_16 h_15 c_12 (by first | omega | (simp only [List.length_append, List.length_singleton]; omega))) rfl h_16 k_911 k_913 ks_Mo_say k_10 k_914 (by decide +kernel) ⟨by decide, by decide⟩ rfl hl.1 rfl (Nat.le_of_ble_eq_true rfl) d_Mo_sayNumber_45 ⟨by decide, by decide⟩ (fun r N1 M_17 H locs hw hP hS => ?_)
      obtain ⟨rfl, hw⟩ := hw
      obtain ⟨gtv_18, c_19, rfl⟩ := hw
      have he_20 : gm_up (gm_up (gm_up M (h + 9) (.inl (ca 0, 40, .inl (iN gtv_11)))) h (moO h (nI le) bp (nI nr) (nI wh) (nI (ts ++ [(48 + ((v0 / 10) % 10))]).length) (nI ne) (nI nf) (nI na) (nI an) (nI tm) (nI cn) (nI cs) (nI bd) (nI lt) (nI nt) fx fy)) (h + 9) (.inl (ca 0, 40, .inl (iN gtv_18))) = gm_up (gm_up M (h + 9) (.inl (ca 0, 40, .inl (iN gtv_18)))) h (moO h (nI le) bp (nI nr) (nI wh) (nI (ts ++ [(48 + ((v0 / 10) % 10))]).length) (nI ne) (nI nf) (nI na) (nI an) (nI tm) (nI cn) (nI cs) (nI bd) (nI lt) (nI nt) fx fy) := (gm_swap (gm_ne h_16 h_15 (fun h => by cases h))).trans (congrArg (fun Z => gm_up Z h (moO h (nI le) bp (nI nr) (nI wh) (nI (ts ++ [(48 + ((v0 / 10) % 10))]).length) (nI ne) (nI nf) (nI na) (nI an) (nI tm) (nI cn) (nI cs) (nI bd) (nI lt) (nI nt) fx fy)) (gm_up_up _ _ _ _))
      have hP := Eq.mp (congrArg (fun Z => gm_P D cls A N (gm_up Z h (moO h (nI le) bp (nI nr) (nI wh) (nI ((ts ++ [(48 + ((v0 / 10) % 10))]) ++ [(48 + (v0 % 10))]).length) (nI ne) (nI nf) (nI na) (nI an) (nI tm) (nI cn) (nI cs) (nI bd) (nI lt) (nI nt) fx fy)) H) he_20) hP
      have h_21 := (congrFun he_20 _).symm.trans (gm_pass (k := (h + 9)) (y := .inl (ca 0, 40, .inl (iN gtv_18))) h_16 (gm_ne h_16 h_15 (fun h => by cases h)))
      have h_22 := (congrFun he_20 _).symm.trans (gm_up_self (gm_up (gm_up M (h + 9) (.inl (ca 0, 40, .inl (iN gtv_11)))) h (moO h (nI le) bp (nI nr) (nI wh) (nI (ts ++ [(48 + ((v0 / 10) % 10))]).length) (nI ne) (nI nf) (nI na) (nI an) (nI tm) (nI cn) (nI cs) (nI bd) (nI lt) (nI nt) fx fy)) (h + 9) (.inl (ca 0, 40, .inl (iN gtv_18))))
      have he_23 : gm_up (gm_up (gm_up M (h + 9) (.inl (ca 0, 40, .inl (iN gtv_18)))) h (moO h (nI le) bp (nI nr) (nI wh) (nI (ts ++ [(48 + ((v0 / 10) % 10))]).length) (nI ne) (nI nf) (nI na) (nI an) (nI tm) (nI cn) (nI cs) (nI bd) (nI lt) (nI nt) fx fy)) h (moO h (nI le) bp (nI nr) (nI wh) (nI ((ts ++ [(48 + ((v0 / 10) % 10))]) ++ [(48 + (v0 % 10))]).length) (nI ne) (nI nf) (nI na) (nI an) (nI tm) (nI cn) (nI cs) (nI bd) (nI lt) (nI nt) fx fy) = gm_up (gm_up M (h + 9) (.inl (ca 0, 40, .inl (iN gtv_18)))) h (moO h (nI le) bp (nI nr) (nI wh) (nI ((ts ++ [(48 + ((v0 / 10) % 10))]) ++ [(48 + (v0 % 10))]).length) (nI ne) (nI nf) (nI na) (nI an) (nI tm) (nI cn) (nI cs) (nI bd) (nI lt) (nI nt) fx fy) := gm_up_up _ _ _ _
      have hP := Eq.mp (congrArg (fun Z => gm_P D cls A N (Z) H) he_23) hP
      have hP : gm_P D cls A N (gm_up (gm_up M (h + 9) (.inl (ca 0, 40, .inl (iN gtv_18)))) h (moO h (nI le) bp (nI nr) (nI wh) (nI ((ts ++ [(48 + ((v0 / 10) % 10))]) ++ [(48 + (v0 % 10))]).length) (nI ne) (nI nf) (nI na) (nI an) (nI tm) (nI cn) (nI cs) (nI bd) (nI lt) (nI nt) fx fy)) H := hP
      have h_24 := (congrFun he_23 _).symm.trans (gm_pass (k := h) (y := moO h (nI le) bp (nI nr) (nI wh) (nI ((ts ++ [(48 + ((v0 / 10) % 10))]) ++ [(48 + (v0 % 10))]).length) (nI ne) (nI nf) (nI na) (nI an) (nI tm) (nI cn) (nI cs) (nI bd) (nI lt) (nI nt) fx fy) h_22 (gm_ne h_22 h_21 (fun h => by cases h)))
      have h_25 := (congrFun he_23 _).symm.trans (gm_up_self (gm_up (gm_up M (h + 9) (.inl (ca 0, 40, .inl (iN gtv_18)))) h (moO h (nI le) bp (nI nr) (nI wh) (nI (ts ++ [(48 + ((v0 / 10) % 10))]).length) (nI ne) (nI nf) (nI na) (nI an) (nI tm) (nI cn) (nI cs) (nI bd) (nI lt) (nI nt) fx fy)) h (moO h (nI le) bp (nI nr) (nI wh) (nI ((ts ++ [(48 + ((v0 / 10) % 10))]) ++ [(48 + (v0 % 10))]).length) (nI ne) (nI nf) (nI na) (nI an) (nI tm) (nI cn) (nI cs) (nI bd) (nI lt) (nI nt) fx fy))
      refine W.eq (g2 := F0 m 48 ls []) rfl ?_
      exact gc_vret hx hb hr hlk hP hS d_Mo_sayNumber_48 (by have he : ts ++ digs v0 = ((ts ++ [(48 + ((v0 / 10) % 10))]) ++ [(48 + (v0 % 10))]) := (by unfold digs; (repeat (first | rw [if_pos (by omega)] | rw [if_neg (by omega)])) <;> simp only [List.append_assoc, List.cons_append, List.nil_append]); rw [he]; exact ⟨rfl, _, c_19, rfl⟩)
  · skip
    refine lv_aload_n hx hb d_Mo_sayNumber_6 rfl (lv_at hl 0 rfl) ?_
    refine lv_bipush (v := nI 48) hx hb d_Mo_sayNumber_7 (by decide) ?_
    refine lv_iload_n hx hb d_Mo_sayNumber_9 rfl (lv_at hl 1 rfl) ?_
    refine lv_bipush (v := nI 100) hx hb d_Mo_sayNumber_10 (by decide) ?_
    refine lv_idiv hx hb d_Mo_sayNumber_12 (by decide) ?_
    rw [show (nI v0) / (nI 100) = nI (v0 / 100) from pk_div (by omega) (by decide) (by decide)]
    refine lv_iadd hx hb d_Mo_sayNumber_13 ?_
    rw [show (nI 48) + (nI (v0 / 100)) = nI (48 + (v0 / 100)) from nI_add _ _]
    refine gc_V (q := (R_Mo, F_Mo, 44)) (n := 1) [.int (nI (48 + (v0 / 100)))] [] hx hb hml hown hts hK hN hX hP hS (c_Mo_say eh m9 htx (by first | omega | (simp only [List.length_append, List.length_singleton]; omega))) rfl eh k_911 k_913 ks_Mo_say k_10 k_914 (by decide +kernel) ⟨by decide, by decide⟩ rfl hl.1 rfl (Nat.le_of_ble_eq_true rfl) d_Mo_sayNumber_14 ⟨by decide, by decide⟩ (fun r N1 M_26 H locs hw hP hS => ?_)
    obtain ⟨rfl, hw⟩ := hw
    obtain ⟨gtv_27, c_28, rfl⟩ := hw
    have h_29 := gm_pass (k := (h + 9)) (y := .inl (ca 0, 40, .inl (iN gtv_27))) eh (gm_ne eh m9 (fun h => by cases h))
    have h_30 := gm_up_self M (h + 9) (.inl (ca 0, 40, .inl (iN gtv_27)))
    have hP : gm_P D cls A N (gm_up (gm_up M (h + 9) (.inl (ca 0, 40, .inl (iN gtv_27)))) h (moO h (nI le) bp (nI nr) (nI wh) (nI (ts ++ [(48 + (v0 / 100))]).length) (nI ne) (nI nf) (nI na) (nI an) (nI tm) (nI cn) (nI cs) (nI bd) (nI lt) (nI nt) fx fy)) H := hP
    have h_31 := gm_pass (k := h) (y := moO h (nI le) bp (nI nr) (nI wh) (nI (ts ++ [(48 + (v0 / 100))]).length) (nI ne) (nI nf) (nI na) (nI an) (nI tm) (nI cn) (nI cs) (nI bd) (nI lt) (nI nt) fx fy) h_30 (gm_ne h_30 h_29 (fun h => by cases h))
    have h_32 := gm_up_self (gm_up M (h + 9) (.inl (ca 0, 40, .inl (iN gtv_27)))) h (moO h (nI le) bp (nI nr) (nI wh) (nI (ts ++ [(48 + (v0 / 100))]).length) (nI ne) (nI nf) (nI na) (nI an) (nI tm) (nI cn) (nI cs) (nI bd) (nI lt) (nI nt) fx fy)
    refine W.eq (g2 := F0 m 17 ls []) rfl ?_
    refine lv_iload_n hx hb d_Mo_sayNumber_17 rfl (lv_at hl 1 rfl) ?_
    refine lv_bipush (v := nI 10) hx hb d_Mo_sayNumber_18 (by decide) ?_
    refine ln_lt (tgt := 37) hx hb d_Mo_sayNumber_20 (by decide) (by omega) (by omega) (fun c_33 => ?_) (fun c_33 => ?_)
    · skip
      refine lv_aload_n hx hb d_Mo_sayNumber_37 rfl (lv_at hl 0 rfl) ?_
      refine lv_bipush (v := nI 48) hx hb d_Mo_sayNumber_38 (by decide) ?_
      refine lv_iload_n hx hb d_Mo_sayNumber_40 rfl (lv_at hl 1 rfl) ?_
      refine lv_bipush (v := nI 10) hx hb d_Mo_sayNumber_41 (by decide) ?_
      refine lv_irem hx hb d_Mo_sayNumber_43 (by decide) ?_
      rw [show (nI v0) - (nI v0) / (nI 10) * (nI 10) = nI (v0 % 10) from pk_rem (by omega) (by decide) (by decide)]
      refine lv_iadd hx hb d_Mo_sayNumber_44 ?_
      rw [show (nI 48) + (nI (v0 % 10)) = nI (48 + (v0 % 10)) from nI_add _ _]
      refine gc_V (q := (R_Mo, F_Mo, 44)) (n := 1) [.int (nI (48 + (v0 % 10)))] [] hx hb hml hown hts hK hN hX hP hS (c_Mo_say h_32 h_31 c_28 (by first | omega | (simp only [List.length_append, List.length_singleton]; omega))) rfl h_32 k_911 k_913 ks_Mo_say k_10 k_914 (by decide +kernel) ⟨by decide, by decide⟩ rfl hl.1 rfl (Nat.le_of_ble_eq_true rfl) d_Mo_sayNumber_45 ⟨by decide, by decide⟩ (fun r N1 M_34 H locs hw hP hS => ?_)
      obtain ⟨rfl, hw⟩ := hw
      obtain ⟨gtv_35, c_36, rfl⟩ := hw
      have he_37 : gm_up (gm_up (gm_up M (h + 9) (.inl (ca 0, 40, .inl (iN gtv_27)))) h (moO h (nI le) bp (nI nr) (nI wh) (nI (ts ++ [(48 + (v0 / 100))]).length) (nI ne) (nI nf) (nI na) (nI an) (nI tm) (nI cn) (nI cs) (nI bd) (nI lt) (nI nt) fx fy)) (h + 9) (.inl (ca 0, 40, .inl (iN gtv_35))) = gm_up (gm_up M (h + 9) (.inl (ca 0, 40, .inl (iN gtv_35)))) h (moO h (nI le) bp (nI nr) (nI wh) (nI (ts ++ [(48 + (v0 / 100))]).length) (nI ne) (nI nf) (nI na) (nI an) (nI tm) (nI cn) (nI cs) (nI bd) (nI lt) (nI nt) fx fy) := (gm_swap (gm_ne h_32 h_31 (fun h => by cases h))).trans (congrArg (fun Z => gm_up Z h (moO h (nI le) bp (nI nr) (nI wh) (nI (ts ++ [(48 + (v0 / 100))]).length) (nI ne) (nI nf) (nI na) (nI an) (nI tm) (nI cn) (nI cs) (nI bd) (nI lt) (nI nt) fx fy)) (gm_up_up _ _ _ _))
      have hP := Eq.mp (congrArg (fun Z => gm_P D cls A N (gm_up Z h (moO h (nI le) bp (nI nr) (nI wh) (nI ((ts ++ [(48 + (v0 / 100))]) ++ [(48 + (v0 % 10))]).length) (nI ne) (nI nf) (nI na) (nI an) (nI tm) (nI cn) (nI cs) (nI bd) (nI lt) (nI nt) fx fy)) H) he_37) hP
      have h_38 := (congrFun he_37 _).symm.trans (gm_pass (k := (h + 9)) (y := .inl (ca 0, 40, .inl (iN gtv_35))) h_32 (gm_ne h_32 h_31 (fun h => by cases h)))
      have h_39 := (congrFun he_37 _).symm.trans (gm_up_self (gm_up (gm_up M (h + 9) (.inl (ca 0, 40, .inl (iN gtv_27)))) h (moO h (nI le) bp (nI nr) (nI wh) (nI (ts ++ [(48 + (v0 / 100))]).length) (nI ne) (nI nf) (nI na) (nI an) (nI tm) (nI cn) (nI cs) (nI bd) (nI lt) (nI nt) fx fy)) (h + 9) (.inl (ca 0, 40, .inl (iN gtv_35))))
      have he_40 : gm_up (gm_up (gm_up M (h + 9) (.inl (ca 0, 40, .inl (iN gtv_35)))) h (moO h (nI le) bp (nI nr) (nI wh) (nI (ts ++ [(48 + (v0 / 100))]).length) (nI ne) (nI nf) (nI na) (nI an) (nI tm) (nI cn) (nI cs) (nI bd) (nI lt) (nI nt) fx fy)) h (moO h (nI le) bp (nI nr) (nI wh) (nI ((ts ++ [(48 + (v0 / 100))]) ++ [(48 + (v0 % 10))]).length) (nI ne) (nI nf) (nI na) (nI an) (nI tm) (nI cn) (nI cs) (nI bd) (nI lt) (nI nt) fx fy) = gm_up (gm_up M (h + 9) (.inl (ca 0, 40, .inl (iN gtv_35)))) h (moO h (nI le) bp (nI nr) (nI wh) (nI ((ts ++ [(48 + (v0 / 100))]) ++ [(48 + (v0 % 10))]).length) (nI ne) (nI nf) (nI na) (nI an) (nI tm) (nI cn) (nI cs) (nI bd) (nI lt) (nI nt) fx fy) := gm_up_up _ _ _ _
      have hP := Eq.mp (congrArg (fun Z => gm_P D cls A N (Z) H) he_40) hP
      have hP : gm_P D cls A N (gm_up (gm_up M (h + 9) (.inl (ca 0, 40, .inl (iN gtv_35)))) h (moO h (nI le) bp (nI nr) (nI wh) (nI ((ts ++ [(48 + (v0 / 100))]) ++ [(48 + (v0 % 10))]).length) (nI ne) (nI nf) (nI na) (nI an) (nI tm) (nI cn) (nI cs) (nI bd) (nI lt) (nI nt) fx fy)) H := hP
      have h_41 := (congrFun he_40 _).symm.trans (gm_pass (k := h) (y := moO h (nI le) bp (nI nr) (nI wh) (nI ((ts ++ [(48 + (v0 / 100))]) ++ [(48 + (v0 % 10))]).length) (nI ne) (nI nf) (nI na) (nI an) (nI tm) (nI cn) (nI cs) (nI bd) (nI lt) (nI nt) fx fy) h_39 (gm_ne h_39 h_38 (fun h => by cases h)))
      have h_42 := (congrFun he_40 _).symm.trans (gm_up_self (gm_up (gm_up M (h + 9) (.inl (ca 0, 40, .inl (iN gtv_35)))) h (moO h (nI le) bp (nI nr) (nI wh) (nI (ts ++ [(48 + (v0 / 100))]).length) (nI ne) (nI nf) (nI na) (nI an) (nI tm) (nI cn) (nI cs) (nI bd) (nI lt) (nI nt) fx fy)) h (moO h (nI le) bp (nI nr) (nI wh) (nI ((ts ++ [(48 + (v0 / 100))]) ++ [(48 + (v0 % 10))]).length) (nI ne) (nI nf) (nI na) (nI an) (nI tm) (nI cn) (nI cs) (nI bd) (nI lt) (nI nt) fx fy))
      refine W.eq (g2 := F0 m 48 ls []) rfl ?_
      exact gc_vret hx hb hr hlk hP hS d_Mo_sayNumber_48 (by exfalso; omega)
    · skip
      refine lv_aload_n hx hb d_Mo_sayNumber_23 rfl (lv_at hl 0 rfl) ?_
      refine lv_bipush (v := nI 48) hx hb d_Mo_sayNumber_24 (by decide) ?_
      refine lv_iload_n hx hb d_Mo_sayNumber_26 rfl (lv_at hl 1 rfl) ?_
      refine lv_bipush (v := nI 10) hx hb d_Mo_sayNumber_27 (by decide) ?_
      refine lv_idiv hx hb d_Mo_sayNumber_29 (by decide) ?_
      rw [show (nI v0) / (nI 10) = nI (v0 / 10) from pk_div (by omega) (by decide) (by decide)]
      refine lv_bipush (v := nI 10) hx hb d_Mo_sayNumber_30 (by decide) ?_
      refine lv_irem hx hb d_Mo_sayNumber_32 (by decide) ?_
      rw [show (nI (v0 / 10)) - (nI (v0 / 10)) / (nI 10) * (nI 10) = nI ((v0 / 10) % 10) from pk_rem (by omega) (by decide) (by decide)]
      refine lv_iadd hx hb d_Mo_sayNumber_33 ?_
      rw [show (nI 48) + (nI ((v0 / 10) % 10)) = nI (48 + ((v0 / 10) % 10)) from nI_add _ _]
      refine gc_V (q := (R_Mo, F_Mo, 44)) (n := 1) [.int (nI (48 + ((v0 / 10) % 10)))] [] hx hb hml hown hts hK hN hX hP hS (c_Mo_say h_32 h_31 c_28 (by first | omega | (simp only [List.length_append, List.length_singleton]; omega))) rfl h_32 k_911 k_913 ks_Mo_say k_10 k_914 (by decide +kernel) ⟨by decide, by decide⟩ rfl hl.1 rfl (Nat.le_of_ble_eq_true rfl) d_Mo_sayNumber_34 ⟨by decide, by decide⟩ (fun r N1 M_43 H locs hw hP hS => ?_)
      obtain ⟨rfl, hw⟩ := hw
      obtain ⟨gtv_44, c_45, rfl⟩ := hw
      have he_46 : gm_up (gm_up (gm_up M (h + 9) (.inl (ca 0, 40, .inl (iN gtv_27)))) h (moO h (nI le) bp (nI nr) (nI wh) (nI (ts ++ [(48 + (v0 / 100))]).length) (nI ne) (nI nf) (nI na) (nI an) (nI tm) (nI cn) (nI cs) (nI bd) (nI lt) (nI nt) fx fy)) (h + 9) (.inl (ca 0, 40, .inl (iN gtv_44))) = gm_up (gm_up M (h + 9) (.inl (ca 0, 40, .inl (iN gtv_44)))) h (moO h (nI le) bp (nI nr) (nI wh) (nI (ts ++ [(48 + (v0 / 100))]).length) (nI ne) (nI nf) (nI na) (nI an) (nI tm) (nI cn) (nI cs) (nI bd) (nI lt) (nI nt) fx fy) := (gm_swap (gm_ne h_32 h_31 (fun h => by cases h))).trans (congrArg (fun Z => gm_up Z h (moO h (nI le) bp (nI nr) (nI wh) (nI (ts ++ [(48 + (v0 / 100))]).length) (nI ne) (nI nf) (nI na) (nI an) (nI tm) (nI cn) (nI cs) (nI bd) (nI lt) (nI nt) fx fy)) (gm_up_up _ _ _ _))
      have hP := Eq.mp (congrArg (fun Z => gm_P D cls A N (gm_up Z h (moO h (nI le) bp (nI nr) (nI wh) (nI ((ts ++ [(48 + (v0 / 100))]) ++ [(48 + ((v0 / 10) % 10))]).length) (nI ne) (nI nf) (nI na) (nI an) (nI tm) (nI cn) (nI cs) (nI bd) (nI lt) (nI nt) fx fy)) H) he_46) hP
      have h_47 := (congrFun he_46 _).symm.trans (gm_pass (k := (h + 9)) (y := .inl (ca 0, 40, .inl (iN gtv_44))) h_32 (gm_ne h_32 h_31 (fun h => by cases h)))
      have h_48 := (congrFun he_46 _).symm.trans (gm_up_self (gm_up (gm_up M (h + 9) (.inl (ca 0, 40, .inl (iN gtv_27)))) h (moO h (nI le) bp (nI nr) (nI wh) (nI (ts ++ [(48 + (v0 / 100))]).length) (nI ne) (nI nf) (nI na) (nI an) (nI tm) (nI cn) (nI cs) (nI bd) (nI lt) (nI nt) fx fy)) (h + 9) (.inl (ca 0, 40, .inl (iN gtv_44))))
      have he_49 : gm_up (gm_up (gm_up M (h + 9) (.inl (ca 0, 40, .inl (iN gtv_44)))) h (moO h (nI le) bp (nI nr) (nI wh) (nI (ts ++ [(48 + (v0 / 100))]).length) (nI ne) (nI nf) (nI na) (nI an) (nI tm) (nI cn) (nI cs) (nI bd) (nI lt) (nI nt) fx fy)) h (moO h (nI le) bp (nI nr) (nI wh) (nI ((ts ++ [(48 + (v0 / 100))]) ++ [(48 + ((v0 / 10) % 10))]).length) (nI ne) (nI nf) (nI na) (nI an) (nI tm) (nI cn) (nI cs) (nI bd) (nI lt) (nI nt) fx fy) = gm_up (gm_up M (h + 9) (.inl (ca 0, 40, .inl (iN gtv_44)))) h (moO h (nI le) bp (nI nr) (nI wh) (nI ((ts ++ [(48 + (v0 / 100))]) ++ [(48 + ((v0 / 10) % 10))]).length) (nI ne) (nI nf) (nI na) (nI an) (nI tm) (nI cn) (nI cs) (nI bd) (nI lt) (nI nt) fx fy) := gm_up_up _ _ _ _
      have hP := Eq.mp (congrArg (fun Z => gm_P D cls A N (Z) H) he_49) hP
      have hP : gm_P D cls A N (gm_up (gm_up M (h + 9) (.inl (ca 0, 40, .inl (iN gtv_44)))) h (moO h (nI le) bp (nI nr) (nI wh) (nI ((ts ++ [(48 + (v0 / 100))]) ++ [(48 + ((v0 / 10) % 10))]).length) (nI ne) (nI nf) (nI na) (nI an) (nI tm) (nI cn) (nI cs) (nI bd) (nI lt) (nI nt) fx fy)) H := hP
      have h_50 := (congrFun he_49 _).symm.trans (gm_pass (k := h) (y := moO h (nI le) bp (nI nr) (nI wh) (nI ((ts ++ [(48 + (v0 / 100))]) ++ [(48 + ((v0 / 10) % 10))]).length) (nI ne) (nI nf) (nI na) (nI an) (nI tm) (nI cn) (nI cs) (nI bd) (nI lt) (nI nt) fx fy) h_48 (gm_ne h_48 h_47 (fun h => by cases h)))
      have h_51 := (congrFun he_49 _).symm.trans (gm_up_self (gm_up (gm_up M (h + 9) (.inl (ca 0, 40, .inl (iN gtv_44)))) h (moO h (nI le) bp (nI nr) (nI wh) (nI (ts ++ [(48 + (v0 / 100))]).length) (nI ne) (nI nf) (nI na) (nI an) (nI tm) (nI cn) (nI cs) (nI bd) (nI lt) (nI nt) fx fy)) h (moO h (nI le) bp (nI nr) (nI wh) (nI ((ts ++ [(48 + (v0 / 100))]) ++ [(48 + ((v0 / 10) % 10))]).length) (nI ne) (nI nf) (nI na) (nI an) (nI tm) (nI cn) (nI cs) (nI bd) (nI lt) (nI nt) fx fy))
      refine W.eq (g2 := F0 m 37 ls []) rfl ?_
      refine lv_aload_n hx hb d_Mo_sayNumber_37 rfl (lv_at hl 0 rfl) ?_
      refine lv_bipush (v := nI 48) hx hb d_Mo_sayNumber_38 (by decide) ?_
      refine lv_iload_n hx hb d_Mo_sayNumber_40 rfl (lv_at hl 1 rfl) ?_
      refine lv_bipush (v := nI 10) hx hb d_Mo_sayNumber_41 (by decide) ?_
      refine lv_irem hx hb d_Mo_sayNumber_43 (by decide) ?_
      rw [show (nI v0) - (nI v0) / (nI 10) * (nI 10) = nI (v0 % 10) from pk_rem (by omega) (by decide) (by decide)]
      refine lv_iadd hx hb d_Mo_sayNumber_44 ?_
      rw [show (nI 48) + (nI (v0 % 10)) = nI (48 + (v0 % 10)) from nI_add _ _]
      refine gc_V (q := (R_Mo, F_Mo, 44)) (n := 1) [.int (nI (48 + (v0 % 10)))] [] hx hb hml hown hts hK hN hX hP hS (c_Mo_say h_51 h_50 c_45 (by first | omega | (simp only [List.length_append, List.length_singleton]; omega))) rfl h_51 k_911 k_913 ks_Mo_say k_10 k_914 (by decide +kernel) ⟨by decide, by decide⟩ rfl hl.1 rfl (Nat.le_of_ble_eq_true rfl) d_Mo_sayNumber_45 ⟨by decide, by decide⟩ (fun r N1 M_52 H locs hw hP hS => ?_)
      obtain ⟨rfl, hw⟩ := hw
      obtain ⟨gtv_53, c_54, rfl⟩ := hw
      have he_55 : gm_up (gm_up (gm_up M (h + 9) (.inl (ca 0, 40, .inl (iN gtv_44)))) h (moO h (nI le) bp (nI nr) (nI wh) (nI ((ts ++ [(48 + (v0 / 100))]) ++ [(48 + ((v0 / 10) % 10))]).length) (nI ne) (nI nf) (nI na) (nI an) (nI tm) (nI cn) (nI cs) (nI bd) (nI lt) (nI nt) fx fy)) (h + 9) (.inl (ca 0, 40, .inl (iN gtv_53))) = gm_up (gm_up M (h + 9) (.inl (ca 0, 40, .inl (iN gtv_53)))) h (moO h (nI le) bp (nI nr) (nI wh) (nI ((ts ++ [(48 + (v0 / 100))]) ++ [(48 + ((v0 / 10) % 10))]).length) (nI ne) (nI nf) (nI na) (nI an) (nI tm) (nI cn) (nI cs) (nI bd) (nI lt) (nI nt) fx fy) := (gm_swap (gm_ne h_51 h_50 (fun h => by cases h))).trans (congrArg (fun Z => gm_up Z h (moO h (nI le) bp (nI nr) (nI wh) (nI ((ts ++ [(48 + (v0 / 100))]) ++ [(48 + ((v0 / 10) % 10))]).length) (nI ne) (nI nf) (nI na) (nI an) (nI tm) (nI cn) (nI cs) (nI bd) (nI lt) (nI nt) fx fy)) (gm_up_up _ _ _ _))
      have hP := Eq.mp (congrArg (fun Z => gm_P D cls A N (gm_up Z h (moO h (nI le) bp (nI nr) (nI wh) (nI (((ts ++ [(48 + (v0 / 100))]) ++ [(48 + ((v0 / 10) % 10))]) ++ [(48 + (v0 % 10))]).length) (nI ne) (nI nf) (nI na) (nI an) (nI tm) (nI cn) (nI cs) (nI bd) (nI lt) (nI nt) fx fy)) H) he_55) hP
      have h_56 := (congrFun he_55 _).symm.trans (gm_pass (k := (h + 9)) (y := .inl (ca 0, 40, .inl (iN gtv_53))) h_51 (gm_ne h_51 h_50 (fun h => by cases h)))
      have h_57 := (congrFun he_55 _).symm.trans (gm_up_self (gm_up (gm_up M (h + 9) (.inl (ca 0, 40, .inl (iN gtv_44)))) h (moO h (nI le) bp (nI nr) (nI wh) (nI ((ts ++ [(48 + (v0 / 100))]) ++ [(48 + ((v0 / 10) % 10))]).length) (nI ne) (nI nf) (nI na) (nI an) (nI tm) (nI cn) (nI cs) (nI bd) (nI lt) (nI nt) fx fy)) (h + 9) (.inl (ca 0, 40, .inl (iN gtv_53))))
      have he_58 : gm_up (gm_up (gm_up M (h + 9) (.inl (ca 0, 40, .inl (iN gtv_53)))) h (moO h (nI le) bp (nI nr) (nI wh) (nI ((ts ++ [(48 + (v0 / 100))]) ++ [(48 + ((v0 / 10) % 10))]).length) (nI ne) (nI nf) (nI na) (nI an) (nI tm) (nI cn) (nI cs) (nI bd) (nI lt) (nI nt) fx fy)) h (moO h (nI le) bp (nI nr) (nI wh) (nI (((ts ++ [(48 + (v0 / 100))]) ++ [(48 + ((v0 / 10) % 10))]) ++ [(48 + (v0 % 10))]).length) (nI ne) (nI nf) (nI na) (nI an) (nI tm) (nI cn) (nI cs) (nI bd) (nI lt) (nI nt) fx fy) = gm_up (gm_up M (h + 9) (.inl (ca 0, 40, .inl (iN gtv_53)))) h (moO h (nI le) bp (nI nr) (nI wh) (nI (((ts ++ [(48 + (v0 / 100))]) ++ [(48 + ((v0 / 10) % 10))]) ++ [(48 + (v0 % 10))]).length) (nI ne) (nI nf) (nI na) (nI an) (nI tm) (nI cn) (nI cs) (nI bd) (nI lt) (nI nt) fx fy) := gm_up_up _ _ _ _
      have hP := Eq.mp (congrArg (fun Z => gm_P D cls A N (Z) H) he_58) hP
      have hP : gm_P D cls A N (gm_up (gm_up M (h + 9) (.inl (ca 0, 40, .inl (iN gtv_53)))) h (moO h (nI le) bp (nI nr) (nI wh) (nI (((ts ++ [(48 + (v0 / 100))]) ++ [(48 + ((v0 / 10) % 10))]) ++ [(48 + (v0 % 10))]).length) (nI ne) (nI nf) (nI na) (nI an) (nI tm) (nI cn) (nI cs) (nI bd) (nI lt) (nI nt) fx fy)) H := hP
      have h_59 := (congrFun he_58 _).symm.trans (gm_pass (k := h) (y := moO h (nI le) bp (nI nr) (nI wh) (nI (((ts ++ [(48 + (v0 / 100))]) ++ [(48 + ((v0 / 10) % 10))]) ++ [(48 + (v0 % 10))]).length) (nI ne) (nI nf) (nI na) (nI an) (nI tm) (nI cn) (nI cs) (nI bd) (nI lt) (nI nt) fx fy) h_57 (gm_ne h_57 h_56 (fun h => by cases h)))
      have h_60 := (congrFun he_58 _).symm.trans (gm_up_self (gm_up (gm_up M (h + 9) (.inl (ca 0, 40, .inl (iN gtv_53)))) h (moO h (nI le) bp (nI nr) (nI wh) (nI ((ts ++ [(48 + (v0 / 100))]) ++ [(48 + ((v0 / 10) % 10))]).length) (nI ne) (nI nf) (nI na) (nI an) (nI tm) (nI cn) (nI cs) (nI bd) (nI lt) (nI nt) fx fy)) h (moO h (nI le) bp (nI nr) (nI wh) (nI (((ts ++ [(48 + (v0 / 100))]) ++ [(48 + ((v0 / 10) % 10))]) ++ [(48 + (v0 % 10))]).length) (nI ne) (nI nf) (nI na) (nI an) (nI tm) (nI cn) (nI cs) (nI bd) (nI lt) (nI nt) fx fy))
      refine W.eq (g2 := F0 m 48 ls []) rfl ?_
      exact gc_vret hx hb hr hlk hP hS d_Mo_sayNumber_48 (by have he : ts ++ digs v0 = (((ts ++ [(48 + (v0 / 100))]) ++ [(48 + ((v0 / 10) % 10))]) ++ [(48 + (v0 % 10))]) := (by unfold digs; (repeat (first | rw [if_pos (by omega)] | rw [if_neg (by omega)])) <;> simp only [List.append_assoc, List.cons_append, List.nil_append]); rw [he]; exact ⟨rfl, _, c_54, rfl⟩)
set_option maxHeartbeats 4000000 in
set_option maxRecDepth 100000 in
theorem c_Mo_ruleText (y y2 : Int32) {h le nr tl ne nf na an tm cn cs bd lt nt wh : Nat} {bp fx fy : Int32} {ma : Nat → Nat} {mw : Nat → Nat} {mp : Nat → Nat} {ml : Nat → Nat} {mh : Nat → Nat} {mtx : Nat → Nat} {ru lw hw : Nat → Nat → Nat} (eh : M h = some (moO h (nI le) bp (nI nr) (nI wh) (nI tl) (nI ne) (nI nf) (nI na) (nI an) (nI tm) (nI cn) (nI cs) (nI bd) (nI lt) (nI nt) fx fy)) (m2 : M (h + 2) = some (.inl (ca 0, 17, .inl (iN ma)))) (m3 : M (h + 3) = some (.inl (ca 0, 17, .inl (iN mw)))) (m4 : M (h + 4) = some (.inl (ca 0, 17, .inl (iN mp)))) (m5 : M (h + 5) = some (.inl (ca 0, 51, .inl (iN ml)))) (m6 : M (h + 6) = some (.inl (ca 0, 51, .inl (iN mh)))) (m9 : M (h + 9) = some (.inl (ca 0, 40, .inl (iN mtx)))) (hRU : relU nr ru lw hw ma mw mp ml mh) (hU : okU nr ru lw hw) (hnr : nr ≤ 16) : gC l D ca A G y_Mo_ruleText (.code y_Mo_ruleText b_Mo_ruleText 7 (some .int)) ({ frames := 2, cells := 0, slots := 0, locals := 42 }) N M [.ref h, .int y, .int y2] gm_i (fun (r : Int32) (N1 : Nat) (M1 : gm_M) => N = N1 ∧ ((((¬ ∃ k : Nat, k < nr ∧ y = nI (k + 1)) ∨ y2 < 0) ∧ M = M1 ∧ (-1) = r) ∨ (∃ (k : Nat) (i : Nat) (gt : Nat → Nat), (k < nr ∧ y = nI (k + 1)) ∧ (i < 2 ^ 31 ∧ y2 = nI i) ∧ M1 h = some (moO h (nI le) bp (nI nr) (nI wh) (nI (rtx (ru k 0) (ru k 1) (ru k 2) (lw k) (hw k)).length) (nI ne) (nI nf) (nI na) (nI an) (nI tm) (nI cn) (nI cs) (nI bd) (nI lt) (nI nt) fx fy) ∧ M1 (h + 9) = some (.inl (ca 0, 40, .inl (iN gt))) ∧ (∀ z, z ≠ h → z ≠ (h + 9) → M1 z = M z) ∧ nI ((rtx (ru k 0) (ru k 1) (ru k 2) (lw k) (hw k)).getD i 0) = r))) := by
  refine gm_body (by decide) (Nat.le_of_ble_eq_true rfl) (fun p e s m below meth c ls hx hb hr hts hown hlk hml hnm hP hK hN hX hS hl => ?_)
  have htl : ∀ w ∈ LW, w.before _ s = true := fun w h => hts w (List.mem_cons_of_mem _ h)
  have hown : s.vm.findClass "PacketGateModel" = some m.cls := hown
  have hl : lv_has ls 7 [(0, .ref h), (1, .int y), (2, .int y2)] := hl
  generalize hQ : MQ below _ _ s _ _ A = Q
  rcases rt_em y y2 nr with ⟨k, i, hk0, hi, rfl, rfl⟩ | hno
  · skip
    refine lv_iload_n hx hb d_Mo_ruleText_0 rfl (lv_at hl 1 rfl) ?_
    refine lv_iconst (v := nI 1) hx hb d_Mo_ruleText_1 (by decide) ?_
    refine ln_lt (tgt := 17) hx hb d_Mo_ruleText_2 (by decide) (by omega) (by omega) (fun c_1 => ?_) (fun c_1 => ?_)
    · skip
      refine lv_iconst (v := (-1)) hx hb d_Mo_ruleText_17 (by decide) ?_
      rw [← hQ]
      exact gc_iret hx hb hr hlk hP hS d_Mo_ruleText_18 (by exfalso; omega)
    · skip
      refine lv_iload_n hx hb d_Mo_ruleText_5 rfl (lv_at hl 1 rfl) ?_
      refine lv_aload_n hx hb d_Mo_ruleText_6 rfl (lv_at hl 0 rfl) ?_
      refine gm_get (C := R_Mo) (T := F_Mo) (n := 44) hx hb htl i_Mo hown hK hP eh rfl 8 (by decide) (htl _ k_751) (fun _ h => h) rfl d_Mo_ruleText_7 ?_
      refine ln_gt (tgt := 17) hx hb d_Mo_ruleText_10 (by decide) (by omega) (by omega) (fun c_2 => ?_) (fun c_2 => ?_)
      · skip
        refine lv_iconst (v := (-1)) hx hb d_Mo_ruleText_17 (by decide) ?_
        rw [← hQ]
        exact gc_iret hx hb hr hlk hP hS d_Mo_ruleText_18 (by exfalso; omega)
      · skip
        refine lv_iload_n hx hb d_Mo_ruleText_13 rfl (lv_at hl 2 rfl) ?_
        refine lz_ge (tgt := 19) hx hb d_Mo_ruleText_14 (by decide) (by omega) ?_
        refine lv_iload_n hx hb d_Mo_ruleText_19 rfl (lv_at hl 1 rfl) ?_
        refine lv_iconst (v := nI 1) hx hb d_Mo_ruleText_20 (by decide) ?_
        refine lv_isub hx hb d_Mo_ruleText_21 ?_
        rw [show (nI (k + 1)) - (nI 1) = nI k from pk_sub (by omega)]
        refine lv_istore_n (lv' := [(3, .int (nI k)), (0, .ref h), (1, .int (nI (k + 1))), (2, .int (nI i))]) hx hb d_Mo_ruleText_22 rfl hl (by decide) rfl (fun ls hl => ?_)
        refine lv_aload_n hx hb d_Mo_ruleText_23 rfl (lv_at hl 1 rfl) ?_
        refine lv_iconst (v := nI ([] : List Nat).length) hx hb d_Mo_ruleText_24 (by decide) ?_
        refine gm_put (C := R_Mo) (T := F_Mo) (n := 44) (ty := .int) hx hb htl i_Mo t_Mo tk_Mo n_Mo hown hK hP hS eh rfl 13 (by decide) (htl _ k_756) (fun _ h => h) rfl (tk_Mo 13 (by decide)) rfl rfl (Nat.le_of_ble_eq_true rfl) d_Mo_ruleText_25 (fun H locs hP hS => ?_)
        have hP : gm_P D cls A N (gm_up M h (moO h (nI le) bp (nI nr) (nI wh) (nI ([] : List Nat).length) (nI ne) (nI nf) (nI na) (nI an) (nI tm) (nI cn) (nI cs) (nI bd) (nI lt) (nI nt) fx fy)) H := hP
        have h_4 := gm_pass (k := h) (y := moO h (nI le) bp (nI nr) (nI wh) (nI ([] : List Nat).length) (nI ne) (nI nf) (nI na) (nI an) (nI tm) (nI cn) (nI cs) (nI bd) (nI lt) (nI nt) fx fy) m2 (gm_ne m2 eh (fun h => by cases h))
        have h_5 := gm_pass (k := h) (y := moO h (nI le) bp (nI nr) (nI wh) (nI ([] : List Nat).length) (nI ne) (nI nf) (nI na) (nI an) (nI tm) (nI cn) (nI cs) (nI bd) (nI lt) (nI nt) fx fy) m3 (gm_ne m3 eh (fun h => by cases h))
        have h_6 := gm_pass (k := h) (y := moO h (nI le) bp (nI nr) (nI wh) (nI ([] : List Nat).length) (nI ne) (nI nf) (nI na) (nI an) (nI tm) (nI cn) (nI cs) (nI bd) (nI lt) (nI nt) fx fy) m4 (gm_ne m4 eh (fun h => by cases h))
        have h_7 := gm_pass (k := h) (y := moO h (nI le) bp (nI nr) (nI wh) (nI ([] : List Nat).length) (nI ne) (nI nf) (nI na) (nI an) (nI tm) (nI cn) (nI cs) (nI bd) (nI lt) (nI nt) fx fy) m5 (gm_ne m5 eh (fun h => by cases h))
        have h_8 := gm_pass (k := h) (y := moO h (nI le) bp (nI nr) (nI wh) (nI ([] : List Nat).length) (nI ne) (nI nf) (nI na) (nI an) (nI tm) (nI cn) (nI cs) (nI bd) (nI lt) (nI nt) fx fy) m6 (gm_ne m6 eh (fun h => by cases h))
        have h_9 := gm_pass (k := h) (y := moO h (nI le) bp (nI nr) (nI wh) (nI ([] : List Nat).length) (nI ne) (nI nf) (nI na) (nI an) (nI tm) (nI cn) (nI cs) (nI bd) (nI lt) (nI nt) fx fy) m9 (gm_ne m9 eh (fun h => by cases h))
        have h_10 := gm_up_self M h (moO h (nI le) bp (nI nr) (nI wh) (nI ([] : List Nat).length) (nI ne) (nI nf) (nI na) (nI an) (nI tm) (nI cn) (nI cs) (nI bd) (nI lt) (nI nt) fx fy)
        refine w_cut (α := Nat) (P := fun cc0 => cc0 = tc 1 (ru k 0)) (nL := 7) (lv := fun cc0 => [(0, .ref h), (1, .int (nI (k + 1))), (2, .int (nI i)), (3, .int (nI k))]) (pc2 := 60) (st2 := fun cc0 => [.int (nI cc0), .ref h]) (fun cc0 ls hl hj_60 => ?_) (fun jn_60 => ?_)
        · skip
          have hl : lv_has ls 7 [(0, .ref h), (1, .int (nI (k + 1))), (2, .int (nI i)), (3, .int (nI k))] := hl
          have hj_60 : cc0 = tc 1 (ru k 0) := hj_60
          refine W.eq (g2 := F0 m 60 ls [.int (nI cc0), .ref h]) rfl ?_
          refine gc_V (q := (R_Mo, F_Mo, 44)) (n := 1) [.int (nI cc0)] [] hx hb hml hown hts hK hN hX hP hS (c_Mo_say h_10 h_9 (fun i hi => absurd hi (Nat.not_lt_zero _)) (by have := hU.2 k 0; have := hU.2 k 0; first | omega | (simp only [List.length_append, List.length_singleton, List.length_nil]; omega))) rfl h_10 k_911 k_913 ks_Mo_say k_10 k_914 (by decide +kernel) ⟨by decide, by decide⟩ rfl hl.1 rfl (Nat.le_of_ble_eq_true rfl) d_Mo_ruleText_60 ⟨by decide, by decide⟩ (fun r N1 M_11 H locs hw hP hS => ?_)
          obtain ⟨rfl, hw⟩ := hw
          obtain ⟨gtv_12, c_13, rfl⟩ := hw
          have h_14 := gm_pass (k := (h + 9)) (y := .inl (ca 0, 40, .inl (iN gtv_12))) h_4 (gm_ne h_4 h_9 (fun h => by simp at h))
          have h_15 := gm_pass (k := (h + 9)) (y := .inl (ca 0, 40, .inl (iN gtv_12))) h_5 (gm_ne h_5 h_9 (fun h => by simp at h))
          have h_16 := gm_pass (k := (h + 9)) (y := .inl (ca 0, 40, .inl (iN gtv_12))) h_6 (gm_ne h_6 h_9 (fun h => by simp at h))
          have h_17 := gm_pass (k := (h + 9)) (y := .inl (ca 0, 40, .inl (iN gtv_12))) h_7 (gm_ne h_7 h_9 (fun h => by simp at h))
          have h_18 := gm_pass (k := (h + 9)) (y := .inl (ca 0, 40, .inl (iN gtv_12))) h_8 (gm_ne h_8 h_9 (fun h => by simp at h))
          have h_19 := gm_pass (k := (h + 9)) (y := .inl (ca 0, 40, .inl (iN gtv_12))) h_10 (gm_ne h_10 h_9 (fun h => by cases h))
          have h_20 := gm_up_self (gm_up M h (moO h (nI le) bp (nI nr) (nI wh) (nI ([] : List Nat).length) (nI ne) (nI nf) (nI na) (nI an) (nI tm) (nI cn) (nI cs) (nI bd) (nI lt) (nI nt) fx fy)) (h + 9) (.inl (ca 0, 40, .inl (iN gtv_12)))
          have he_21 : gm_up (gm_up (gm_up M h (moO h (nI le) bp (nI nr) (nI wh) (nI ([] : List Nat).length) (nI ne) (nI nf) (nI na) (nI an) (nI tm) (nI cn) (nI cs) (nI bd) (nI lt) (nI nt) fx fy)) (h + 9) (.inl (ca 0, 40, .inl (iN gtv_12)))) h (moO h (nI le) bp (nI nr) (nI wh) (nI (([] : List Nat) ++ [cc0]).length) (nI ne) (nI nf) (nI na) (nI an) (nI tm) (nI cn) (nI cs) (nI bd) (nI lt) (nI nt) fx fy) = gm_up (gm_up M h (moO h (nI le) bp (nI nr) (nI wh) (nI (([] : List Nat) ++ [cc0]).length) (nI ne) (nI nf) (nI na) (nI an) (nI tm) (nI cn) (nI cs) (nI bd) (nI lt) (nI nt) fx fy)) (h + 9) (.inl (ca 0, 40, .inl (iN gtv_12))) := (gm_swap (gm_ne h_20 h_19 (fun h => by cases h))).trans (congrArg (fun Z => gm_up Z (h + 9) (.inl (ca 0, 40, .inl (iN gtv_12)))) (gm_up_up _ _ _ _))
          have hP := Eq.mp (congrArg (fun Z => gm_P D cls A N (Z) H) he_21) hP
          have hP : gm_P D cls A N (gm_up (gm_up M h (moO h (nI le) bp (nI nr) (nI wh) (nI (([] : List Nat) ++ [cc0]).length) (nI ne) (nI nf) (nI na) (nI an) (nI tm) (nI cn) (nI cs) (nI bd) (nI lt) (nI nt) fx fy)) (h + 9) (.inl (ca 0, 40, .inl (iN gtv_12)))) H := hP
          have h_22 := (congrFun he_21 _).symm.trans (gm_pass (k := h) (y := moO h (nI le) bp (nI nr) (nI wh) (nI (([] : List Nat) ++ [cc0]).length) (nI ne) (nI nf) (nI na) (nI an) (nI tm) (nI cn) (nI cs) (nI bd) (nI lt) (nI nt) fx fy) h_14 (gm_ne h_14 h_19 (fun h => by cases h)))
          have h_23 := (congrFun he_21 _).symm.trans (gm_pass (k := h) (y := moO h (nI le) bp (nI nr) (nI wh) (nI (([] : List Nat) ++ [cc0]).length) (nI ne) (nI nf) (nI na) (nI an) (nI tm) (nI cn) (nI cs) (nI bd) (nI lt) (nI nt) fx fy) h_15 (gm_ne h_15 h_19 (fun h => by cases h)))
          have h_24 := (congrFun he_21 _).symm.trans (gm_pass (k := h) (y := moO h (nI le) bp (nI nr) (nI wh) (nI (([] : List Nat) ++ [cc0]).length) (nI ne) (nI nf) (nI na) (nI an) (nI tm) (nI cn) (nI cs) (nI bd) (nI lt) (nI nt) fx fy) h_16 (gm_ne h_16 h_19 (fun h => by cases h)))
          have h_25 := (congrFun he_21 _).symm.trans (gm_pass (k := h) (y := moO h (nI le) bp (nI nr) (nI wh) (nI (([] : List Nat) ++ [cc0]).length) (nI ne) (nI nf) (nI na) (nI an) (nI tm) (nI cn) (nI cs) (nI bd) (nI lt) (nI nt) fx fy) h_17 (gm_ne h_17 h_19 (fun h => by cases h)))
          have h_26 := (congrFun he_21 _).symm.trans (gm_pass (k := h) (y := moO h (nI le) bp (nI nr) (nI wh) (nI (([] : List Nat) ++ [cc0]).length) (nI ne) (nI nf) (nI na) (nI an) (nI tm) (nI cn) (nI cs) (nI bd) (nI lt) (nI nt) fx fy) h_18 (gm_ne h_18 h_19 (fun h => by cases h)))
          have h_27 := (congrFun he_21 _).symm.trans (gm_pass (k := h) (y := moO h (nI le) bp (nI nr) (nI wh) (nI (([] : List Nat) ++ [cc0]).length) (nI ne) (nI nf) (nI na) (nI an) (nI tm) (nI cn) (nI cs) (nI bd) (nI lt) (nI nt) fx fy) h_20 (gm_ne h_20 h_19 (fun h => by cases h)))
          have h_28 := (congrFun he_21 _).symm.trans (gm_up_self (gm_up (gm_up M h (moO h (nI le) bp (nI nr) (nI wh) (nI ([] : List Nat).length) (nI ne) (nI nf) (nI na) (nI an) (nI tm) (nI cn) (nI cs) (nI bd) (nI lt) (nI nt) fx fy)) (h + 9) (.inl (ca 0, 40, .inl (iN gtv_12)))) h (moO h (nI le) bp (nI nr) (nI wh) (nI (([] : List Nat) ++ [cc0]).length) (nI ne) (nI nf) (nI na) (nI an) (nI tm) (nI cn) (nI cs) (nI bd) (nI lt) (nI nt) fx fy))
          refine W.eq (g2 := F0 m 63 ls []) rfl ?_
          refine w_cut (α := Nat) (P := fun cc1 => cc1 = tc 2 (ru k 1)) (nL := 7) (lv := fun cc1 => [(0, .ref h), (1, .int (nI (k + 1))), (2, .int (nI i)), (3, .int (nI k))]) (pc2 := 95) (st2 := fun cc1 => [.int (nI cc1), .ref h]) (fun cc1 ls hl hj_95 => ?_) (fun jn_95 => ?_)
          · skip
            have hl : lv_has ls 7 [(0, .ref h), (1, .int (nI (k + 1))), (2, .int (nI i)), (3, .int (nI k))] := hl
            have hj_95 : cc1 = tc 2 (ru k 1) := hj_95
            refine W.eq (g2 := F0 m 95 ls [.int (nI cc1), .ref h]) rfl ?_
            refine gc_V (q := (R_Mo, F_Mo, 44)) (n := 1) [.int (nI cc1)] [] hx hb hml hown hts hK hN hX hP hS (c_Mo_say h_28 h_27 c_13 (by have := hU.2 k 0; have := hU.2 k 0; first | omega | (simp only [List.length_append, List.length_singleton, List.length_nil]; omega))) rfl h_28 k_911 k_913 ks_Mo_say k_10 k_914 (by decide +kernel) ⟨by decide, by decide⟩ rfl hl.1 rfl (Nat.le_of_ble_eq_true rfl) d_Mo_ruleText_95 ⟨by decide, by decide⟩ (fun r N1 M_29 H locs hw hP hS => ?_)
            obtain ⟨rfl, hw⟩ := hw
            obtain ⟨gtv_30, c_31, rfl⟩ := hw
            have he_32 : gm_up (gm_up (gm_up M h (moO h (nI le) bp (nI nr) (nI wh) (nI (([] : List Nat) ++ [cc0]).length) (nI ne) (nI nf) (nI na) (nI an) (nI tm) (nI cn) (nI cs) (nI bd) (nI lt) (nI nt) fx fy)) (h + 9) (.inl (ca 0, 40, .inl (iN gtv_12)))) (h + 9) (.inl (ca 0, 40, .inl (iN gtv_30))) = gm_up (gm_up M h (moO h (nI le) bp (nI nr) (nI wh) (nI (([] : List Nat) ++ [cc0]).length) (nI ne) (nI nf) (nI na) (nI an) (nI tm) (nI cn) (nI cs) (nI bd) (nI lt) (nI nt) fx fy)) (h + 9) (.inl (ca 0, 40, .inl (iN gtv_30))) := gm_up_up _ _ _ _
            have hP := Eq.mp (congrArg (fun Z => gm_P D cls A N (gm_up Z h (moO h (nI le) bp (nI nr) (nI wh) (nI ((([] : List Nat) ++ [cc0]) ++ [cc1]).length) (nI ne) (nI nf) (nI na) (nI an) (nI tm) (nI cn) (nI cs) (nI bd) (nI lt) (nI nt) fx fy)) H) he_32) hP
            have h_33 := (congrFun he_32 _).symm.trans (gm_pass (k := (h + 9)) (y := .inl (ca 0, 40, .inl (iN gtv_30))) h_22 (gm_ne h_22 h_27 (fun h => by simp at h)))
            have h_34 := (congrFun he_32 _).symm.trans (gm_pass (k := (h + 9)) (y := .inl (ca 0, 40, .inl (iN gtv_30))) h_23 (gm_ne h_23 h_27 (fun h => by simp at h)))
            have h_35 := (congrFun he_32 _).symm.trans (gm_pass (k := (h + 9)) (y := .inl (ca 0, 40, .inl (iN gtv_30))) h_24 (gm_ne h_24 h_27 (fun h => by simp at h)))
            have h_36 := (congrFun he_32 _).symm.trans (gm_pass (k := (h + 9)) (y := .inl (ca 0, 40, .inl (iN gtv_30))) h_25 (gm_ne h_25 h_27 (fun h => by simp at h)))
            have h_37 := (congrFun he_32 _).symm.trans (gm_pass (k := (h + 9)) (y := .inl (ca 0, 40, .inl (iN gtv_30))) h_26 (gm_ne h_26 h_27 (fun h => by simp at h)))
            have h_38 := (congrFun he_32 _).symm.trans (gm_pass (k := (h + 9)) (y := .inl (ca 0, 40, .inl (iN gtv_30))) h_28 (gm_ne h_28 h_27 (fun h => by cases h)))
            have h_39 := (congrFun he_32 _).symm.trans (gm_up_self (gm_up (gm_up M h (moO h (nI le) bp (nI nr) (nI wh) (nI (([] : List Nat) ++ [cc0]).length) (nI ne) (nI nf) (nI na) (nI an) (nI tm) (nI cn) (nI cs) (nI bd) (nI lt) (nI nt) fx fy)) (h + 9) (.inl (ca 0, 40, .inl (iN gtv_12)))) (h + 9) (.inl (ca 0, 40, .inl (iN gtv_30))))
            have he_40 : gm_up (gm_up (gm_up M h (moO h (nI le) bp (nI nr) (nI wh) (nI (([] : List Nat) ++ [cc0]).length) (nI ne) (nI nf) (nI na) (nI an) (nI tm) (nI cn) (nI cs) (nI bd) (nI lt) (nI nt) fx fy)) (h + 9) (.inl (ca 0, 40, .inl (iN gtv_30)))) h (moO h (nI le) bp (nI nr) (nI wh) (nI ((([] : List Nat) ++ [cc0]) ++ [cc1]).length) (nI ne) (nI nf) (nI na) (nI an) (nI tm) (nI cn) (nI cs) (nI bd) (nI lt) (nI nt) fx fy) = gm_up (gm_up M h (moO h (nI le) bp (nI nr) (nI wh) (nI ((([] : List Nat) ++ [cc0]) ++ [cc1]).length) (nI ne) (nI nf) (nI na) (nI an) (nI tm) (nI cn) (nI cs) (nI bd) (nI lt) (nI nt) fx fy)) (h + 9) (.inl (ca 0, 40, .inl (iN gtv_30))) := (gm_swap (gm_ne h_39 h_38 (fun h => by cases h))).trans (congrArg (fun Z => gm_up Z (h + 9) (.inl (ca 0, 40, .inl (iN gtv_30)))) (gm_up_up _ _ _ _))
            have hP := Eq.mp (congrArg (fun Z => gm_P D cls A N (Z) H) he_40) hP
            have hP : gm_P D cls A N (gm_up (gm_up M h (moO h (nI le) bp (nI nr) (nI wh) (nI ((([] : List Nat) ++ [cc0]) ++ [cc1]).length) (nI ne) (nI nf) (nI na) (nI an) (nI tm) (nI cn) (nI cs) (nI bd) (nI lt) (nI nt) fx fy)) (h + 9) (.inl (ca 0, 40, .inl (iN gtv_30)))) H := hP
            have h_41 := (congrFun he_40 _).symm.trans (gm_pass (k := h) (y := moO h (nI le) bp (nI nr) (nI wh) (nI ((([] : List Nat) ++ [cc0]) ++ [cc1]).length) (nI ne) (nI nf) (nI na) (nI an) (nI tm) (nI cn) (nI cs) (nI bd) (nI lt) (nI nt) fx fy) h_33 (gm_ne h_33 h_38 (fun h => by cases h)))
            have h_42 := (congrFun he_40 _).symm.trans (gm_pass (k := h) (y := moO h (nI le) bp (nI nr) (nI wh) (nI ((([] : List Nat) ++ [cc0]) ++ [cc1]).length) (nI ne) (nI nf) (nI na) (nI an) (nI tm) (nI cn) (nI cs) (nI bd) (nI lt) (nI nt) fx fy) h_34 (gm_ne h_34 h_38 (fun h => by cases h)))
            have h_43 := (congrFun he_40 _).symm.trans (gm_pass (k := h) (y := moO h (nI le) bp (nI nr) (nI wh) (nI ((([] : List Nat) ++ [cc0]) ++ [cc1]).length) (nI ne) (nI nf) (nI na) (nI an) (nI tm) (nI cn) (nI cs) (nI bd) (nI lt) (nI nt) fx fy) h_35 (gm_ne h_35 h_38 (fun h => by cases h)))
            have h_44 := (congrFun he_40 _).symm.trans (gm_pass (k := h) (y := moO h (nI le) bp (nI nr) (nI wh) (nI ((([] : List Nat) ++ [cc0]) ++ [cc1]).length) (nI ne) (nI nf) (nI na) (nI an) (nI tm) (nI cn) (nI cs) (nI bd) (nI lt) (nI nt) fx fy) h_36 (gm_ne h_36 h_38 (fun h => by cases h)))
            have h_45 := (congrFun he_40 _).symm.trans (gm_pass (k := h) (y := moO h (nI le) bp (nI nr) (nI wh) (nI ((([] : List Nat) ++ [cc0]) ++ [cc1]).length) (nI ne) (nI nf) (nI na) (nI an) (nI tm) (nI cn) (nI cs) (nI bd) (nI lt) (nI nt) fx fy) h_37 (gm_ne h_37 h_38 (fun h => by cases h)))
            have h_46 := (congrFun he_40 _).symm.trans (gm_pass (k := h) (y := moO h (nI le) bp (nI nr) (nI wh) (nI ((([] : List Nat) ++ [cc0]) ++ [cc1]).length) (nI ne) (nI nf) (nI na) (nI an) (nI tm) (nI cn) (nI cs) (nI bd) (nI lt) (nI nt) fx fy) h_39 (gm_ne h_39 h_38 (fun h => by cases h)))
            have h_47 := (congrFun he_40 _).symm.trans (gm_up_self (gm_up (gm_up M h (moO h (nI le) bp (nI nr) (nI wh) (nI (([] : List Nat) ++ [cc0]).length) (nI ne) (nI nf) (nI na) (nI an) (nI tm) (nI cn) (nI cs) (nI bd) (nI lt) (nI nt) fx fy)) (h + 9) (.inl (ca 0, 40, .inl (iN gtv_30)))) h (moO h (nI le) bp (nI nr) (nI wh) (nI ((([] : List Nat) ++ [cc0]) ++ [cc1]).length) (nI ne) (nI nf) (nI na) (nI an) (nI tm) (nI cn) (nI cs) (nI bd) (nI lt) (nI nt) fx fy))
            refine W.eq (g2 := F0 m 98 ls []) rfl ?_
            refine w_cut (α := Nat) (P := fun cc2 => cc2 = tc 3 (ru k 2)) (nL := 7) (lv := fun cc2 => [(0, .ref h), (1, .int (nI (k + 1))), (2, .int (nI i)), (3, .int (nI k))]) (pc2 := 145) (st2 := fun cc2 => [.int (nI cc2), .ref h]) (fun cc2 ls hl hj_145 => ?_) (fun jn_145 => ?_)
            · skip
              have hl : lv_has ls 7 [(0, .ref h), (1, .int (nI (k + 1))), (2, .int (nI i)), (3, .int (nI k))] := hl
              have hj_145 : cc2 = tc 3 (ru k 2) := hj_145
              refine W.eq (g2 := F0 m 145 ls [.int (nI cc2), .ref h]) rfl ?_
              refine gc_V (q := (R_Mo, F_Mo, 44)) (n := 1) [.int (nI cc2)] [] hx hb hml hown hts hK hN hX hP hS (c_Mo_say h_47 h_46 c_31 (by have := hU.2 k 0; have := hU.2 k 0; first | omega | (simp only [List.length_append, List.length_singleton, List.length_nil]; omega))) rfl h_47 k_911 k_913 ks_Mo_say k_10 k_914 (by decide +kernel) ⟨by decide, by decide⟩ rfl hl.1 rfl (Nat.le_of_ble_eq_true rfl) d_Mo_ruleText_145 ⟨by decide, by decide⟩ (fun r N1 M_48 H locs hw hP hS => ?_)
              obtain ⟨rfl, hw⟩ := hw
              obtain ⟨gtv_49, c_50, rfl⟩ := hw
              have he_51 : gm_up (gm_up (gm_up M h (moO h (nI le) bp (nI nr) (nI wh) (nI ((([] : List Nat) ++ [cc0]) ++ [cc1]).length) (nI ne) (nI nf) (nI na) (nI an) (nI tm) (nI cn) (nI cs) (nI bd) (nI lt) (nI nt) fx fy)) (h + 9) (.inl (ca 0, 40, .inl (iN gtv_30)))) (h + 9) (.inl (ca 0, 40, .inl (iN gtv_49))) = gm_up (gm_up M h (moO h (nI le) bp (nI nr) (nI wh) (nI ((([] : List Nat) ++ [cc0]) ++ [cc1]).length) (nI ne) (nI nf) (nI na) (nI an) (nI tm) (nI cn) (nI cs) (nI bd) (nI lt) (nI nt) fx fy)) (h + 9) (.inl (ca 0, 40, .inl (iN gtv_49))) := gm_up_up _ _ _ _
              have hP := Eq.mp (congrArg (fun Z => gm_P D cls A N (gm_up Z h (moO h (nI le) bp (nI nr) (nI wh) (nI (((([] : List Nat) ++ [cc0]) ++ [cc1]) ++ [cc2]).length) (nI ne) (nI nf) (nI na) (nI an) (nI tm) (nI cn) (nI cs) (nI bd) (nI lt) (nI nt) fx fy)) H) he_51) hP
              have h_52 := (congrFun he_51 _).symm.trans (gm_pass (k := (h + 9)) (y := .inl (ca 0, 40, .inl (iN gtv_49))) h_41 (gm_ne h_41 h_46 (fun h => by simp at h)))
              have h_53 := (congrFun he_51 _).symm.trans (gm_pass (k := (h + 9)) (y := .inl (ca 0, 40, .inl (iN gtv_49))) h_42 (gm_ne h_42 h_46 (fun h => by simp at h)))
              have h_54 := (congrFun he_51 _).symm.trans (gm_pass (k := (h + 9)) (y := .inl (ca 0, 40, .inl (iN gtv_49))) h_43 (gm_ne h_43 h_46 (fun h => by simp at h)))
              have h_55 := (congrFun he_51 _).symm.trans (gm_pass (k := (h + 9)) (y := .inl (ca 0, 40, .inl (iN gtv_49))) h_44 (gm_ne h_44 h_46 (fun h => by simp at h)))
              have h_56 := (congrFun he_51 _).symm.trans (gm_pass (k := (h + 9)) (y := .inl (ca 0, 40, .inl (iN gtv_49))) h_45 (gm_ne h_45 h_46 (fun h => by simp at h)))
              have h_57 := (congrFun he_51 _).symm.trans (gm_pass (k := (h + 9)) (y := .inl (ca 0, 40, .inl (iN gtv_49))) h_47 (gm_ne h_47 h_46 (fun h => by cases h)))
              have h_58 := (congrFun he_51 _).symm.trans (gm_up_self (gm_up (gm_up M h (moO h (nI le) bp (nI nr) (nI wh) (nI ((([] : List Nat) ++ [cc0]) ++ [cc1]).length) (nI ne) (nI nf) (nI na) (nI an) (nI tm) (nI cn) (nI cs) (nI bd) (nI lt) (nI nt) fx fy)) (h + 9) (.inl (ca 0, 40, .inl (iN gtv_30)))) (h + 9) (.inl (ca 0, 40, .inl (iN gtv_49))))
              have he_59 : gm_up (gm_up (gm_up M h (moO h (nI le) bp (nI nr) (nI wh) (nI ((([] : List Nat) ++ [cc0]) ++ [cc1]).length) (nI ne) (nI nf) (nI na) (nI an) (nI tm) (nI cn) (nI cs) (nI bd) (nI lt) (nI nt) fx fy)) (h + 9) (.inl (ca 0, 40, .inl (iN gtv_49)))) h (moO h (nI le) bp (nI nr) (nI wh) (nI (((([] : List Nat) ++ [cc0]) ++ [cc1]) ++ [cc2]).length) (nI ne) (nI nf) (nI na) (nI an) (nI tm) (nI cn) (nI cs) (nI bd) (nI lt) (nI nt) fx fy) = gm_up (gm_up M h (moO h (nI le) bp (nI nr) (nI wh) (nI (((([] : List Nat) ++ [cc0]) ++ [cc1]) ++ [cc2]).length) (nI ne) (nI nf) (nI na) (nI an) (nI tm) (nI cn) (nI cs) (nI bd) (nI lt) (nI nt) fx fy)) (h + 9) (.inl (ca 0, 40, .inl (iN gtv_49))) := (gm_swap (gm_ne h_58 h_57 (fun h => by cases h))).trans (congrArg (fun Z => gm_up Z (h + 9) (.inl (ca 0, 40, .inl (iN gtv_49)))) (gm_up_up _ _ _ _))
              have hP := Eq.mp (congrArg (fun Z => gm_P D cls A N (Z) H) he_59) hP
              have hP : gm_P D cls A N (gm_up (gm_up M h (moO h (nI le) bp (nI nr) (nI wh) (nI (((([] : List Nat) ++ [cc0]) ++ [cc1]) ++ [cc2]).length) (nI ne) (nI nf) (nI na) (nI an) (nI tm) (nI cn) (nI cs) (nI bd) (nI lt) (nI nt) fx fy)) (h + 9) (.inl (ca 0, 40, .inl (iN gtv_49)))) H := hP
              have h_60 := (congrFun he_59 _).symm.trans (gm_pass (k := h) (y := moO h (nI le) bp (nI nr) (nI wh) (nI (((([] : List Nat) ++ [cc0]) ++ [cc1]) ++ [cc2]).length) (nI ne) (nI nf) (nI na) (nI an) (nI tm) (nI cn) (nI cs) (nI bd) (nI lt) (nI nt) fx fy) h_52 (gm_ne h_52 h_57 (fun h => by cases h)))
              have h_61 := (congrFun he_59 _).symm.trans (gm_pass (k := h) (y := moO h (nI le) bp (nI nr) (nI wh) (nI (((([] : List Nat) ++ [cc0]) ++ [cc1]) ++ [cc2]).length) (nI ne) (nI nf) (nI na) (nI an) (nI tm) (nI cn) (nI cs) (nI bd) (nI lt) (nI nt) fx fy) h_53 (gm_ne h_53 h_57 (fun h => by cases h)))
              have h_62 := (congrFun he_59 _).symm.trans (gm_pass (k := h) (y := moO h (nI le) bp (nI nr) (nI wh) (nI (((([] : List Nat) ++ [cc0]) ++ [cc1]) ++ [cc2]).length) (nI ne) (nI nf) (nI na) (nI an) (nI tm) (nI cn) (nI cs) (nI bd) (nI lt) (nI nt) fx fy) h_54 (gm_ne h_54 h_57 (fun h => by cases h)))
              have h_63 := (congrFun he_59 _).symm.trans (gm_pass (k := h) (y := moO h (nI le) bp (nI nr) (nI wh) (nI (((([] : List Nat) ++ [cc0]) ++ [cc1]) ++ [cc2]).length) (nI ne) (nI nf) (nI na) (nI an) (nI tm) (nI cn) (nI cs) (nI bd) (nI lt) (nI nt) fx fy) h_55 (gm_ne h_55 h_57 (fun h => by cases h)))
              have h_64 := (congrFun he_59 _).symm.trans (gm_pass (k := h) (y := moO h (nI le) bp (nI nr) (nI wh) (nI (((([] : List Nat) ++ [cc0]) ++ [cc1]) ++ [cc2]).length) (nI ne) (nI nf) (nI na) (nI an) (nI tm) (nI cn) (nI cs) (nI bd) (nI lt) (nI nt) fx fy) h_56 (gm_ne h_56 h_57 (fun h => by cases h)))
              have h_65 := (congrFun he_59 _).symm.trans (gm_pass (k := h) (y := moO h (nI le) bp (nI nr) (nI wh) (nI (((([] : List Nat) ++ [cc0]) ++ [cc1]) ++ [cc2]).length) (nI ne) (nI nf) (nI na) (nI an) (nI tm) (nI cn) (nI cs) (nI bd) (nI lt) (nI nt) fx fy) h_58 (gm_ne h_58 h_57 (fun h => by cases h)))
              have h_66 := (congrFun he_59 _).symm.trans (gm_up_self (gm_up (gm_up M h (moO h (nI le) bp (nI nr) (nI wh) (nI ((([] : List Nat) ++ [cc0]) ++ [cc1]).length) (nI ne) (nI nf) (nI na) (nI an) (nI tm) (nI cn) (nI cs) (nI bd) (nI lt) (nI nt) fx fy)) (h + 9) (.inl (ca 0, 40, .inl (iN gtv_49)))) h (moO h (nI le) bp (nI nr) (nI wh) (nI (((([] : List Nat) ++ [cc0]) ++ [cc1]) ++ [cc2]).length) (nI ne) (nI nf) (nI na) (nI an) (nI tm) (nI cn) (nI cs) (nI bd) (nI lt) (nI nt) fx fy))
              refine W.eq (g2 := F0 m 148 ls []) rfl ?_
              refine lv_iconst (v := nI 0) hx hb d_Mo_ruleText_148 (by decide) ?_
              refine lv_istore (lv' := [(4, .int (nI 0)), (0, .ref h), (1, .int (nI (k + 1))), (2, .int (nI i)), (3, .int (nI k))]) hx hb d_Mo_ruleText_149 hl (by decide) rfl (fun ls hl => ?_)
              have loop_151 : ∀ (fu : Nat) (p0 : Nat) (tq : List Nat) (tf : Nat → Nat) (Mv : gm_M) (ls : Array Slot) (H : Heap) (locs : List Loc), (Mv h = some (moO h (nI le) bp (nI nr) (nI wh) (nI tq.length) (nI ne) (nI nf) (nI na) (nI an) (nI tm) (nI cn) (nI cs) (nI bd) (nI lt) (nI nt) fx fy)) → (Mv (h + 5) = some (.inl (ca 0, 51, .inl (iN ml)))) → (Mv (h + 6) = some (.inl (ca 0, 51, .inl (iN mh)))) → (Mv (h + 9) = some (.inl (ca 0, 40, .inl (iN tf)))) → (p0 ≤ 3) → (tq = rtP (ru k 0) (ru k 1) (ru k 2) (lw k) (hw k) p0) → (txM tf tq) → (∀ z, z ≠ h → z ≠ (h + 9) → Mv z = M z) → (3 - p0) < fu → gm_P D cls A N Mv H → va_S A s.heap H locs → lv_has ls 7 [(0, .ref h), (2, .int (nI i)), (3, .int (nI k)), (4, .int (nI p0))] → W p l e ({ frames := 2, cells := 0, slots := 0, locals := 42 }) s m ([.ref h, .int (nI (k + 1)), .int (nI i)] : List Value).toArray below meth c H locs (0) (0) Q (F0 m 151 ls []) := by
                intro fu
                induction fu with
                | zero => intro p0 tq tf Mv ls H locs ehv m5v m6v m9v hp htq htf hfrv hk; exact absurd hk (Nat.not_lt_zero _)
                | succ fu ih_151 =>
                  intro p0 tq tf Mv ls H locs ehv m5v m6v m9v hp htq htf hfrv hk hP hS hl
                  have hdl := digs_len (lw k p0)
                  have hql : tq.length ≤ 3 + 8 * p0 := by rw [htq]; exact rtP_len _ _ _ _ _ p0
                  refine lv_iload hx hb d_Mo_ruleText_151 (lv_at hl 3 rfl) ?_
                  refine lv_iconst (v := nI 3) hx hb d_Mo_ruleText_153 (by decide) ?_
                  refine ln_ge (tgt := 250) hx hb d_Mo_ruleText_154 (by decide) (by omega) (by omega) (fun c_67 => ?_) (fun c_67 => ?_)
                  · skip
                    obtain rfl : p0 = 3 := by omega
                    obtain rfl : tq = rtx (ru k 0) (ru k 1) (ru k 2) (lw k) (hw k) := htq.trans (rtP_3 _ _ _ _ _)
                    have hrl := rtx_len (ru k 0) (ru k 1) (ru k 2) (lw k) (hw k)
                    refine lv_iload_n hx hb d_Mo_ruleText_250 rfl (lv_at hl 1 rfl) ?_
                    refine lv_aload_n hx hb d_Mo_ruleText_251 rfl (lv_at hl 0 rfl) ?_
                    refine gm_get (C := R_Mo) (T := F_Mo) (n := 44) hx hb htl i_Mo hown hK hP ehv rfl 13 (by decide) (htl _ k_756) (fun _ h => h) rfl d_Mo_ruleText_252 ?_
                    refine ln_ge (tgt := 267) hx hb d_Mo_ruleText_255 (by decide) (by omega) (by omega) (fun c_68 => ?_) (fun c_68 => ?_)
                    · skip
                      refine lv_iconst (v := nI 0) hx hb d_Mo_ruleText_267 (by decide) ?_
                      rw [← hQ]
                      exact gc_iret hx hb hr hlk hP hS d_Mo_ruleText_268 ⟨rfl, Or.inr ⟨k, i, tf, ⟨hk0, rfl⟩, ⟨hi, rfl⟩, ehv, m9v, (fun z q0 q1 => (hfrv z q0 q1).trans (rfl)), (by rw [getD_out (by omega)])⟩⟩
                    · skip
                      refine lv_aload_n hx hb d_Mo_ruleText_258 rfl (lv_at hl 0 rfl) ?_
                      refine gm_get (C := R_Mo) (T := F_Mo) (n := 44) hx hb htl i_Mo hown hK hP ehv rfl 12 (by decide) (htl _ k_755) (fun _ h => h) rfl d_Mo_ruleText_259 ?_
                      refine lv_iload_n hx hb d_Mo_ruleText_262 rfl (lv_at hl 1 rfl) ?_
                      refine gz_iald hx hb hK hP 0 m9v rfl (by omega) (by omega) d_Mo_ruleText_263 ?_
                      rw [show tf i = (rtx (ru k 0) (ru k 1) (ru k 2) (lw k) (hw k)).getD i 0 from htf i (by omega)]
                      refine lv_goto (tgt := 268) hx hb d_Mo_ruleText_264 (by decide) ?_
                      rw [← hQ]
                      exact gc_iret hx hb hr hlk hP hS d_Mo_ruleText_268 ⟨rfl, Or.inr ⟨k, i, tf, ⟨hk0, rfl⟩, ⟨hi, rfl⟩, ehv, m9v, (fun z q0 q1 => (hfrv z q0 q1).trans (rfl)), rfl⟩⟩
                  · skip
                    refine lv_aload_n hx hb d_Mo_ruleText_157 rfl (lv_at hl 0 rfl) ?_
                    refine gm_get (C := R_Mo) (T := F_Mo) (n := 44) hx hb htl i_Mo hown hK hP ehv rfl 6 (by decide) (htl _ k_749) (fun _ h => h) rfl d_Mo_ruleText_158 ?_
                    refine lv_iload_n hx hb d_Mo_ruleText_161 rfl (lv_at hl 2 rfl) ?_
                    refine lv_iconst (v := nI 3) hx hb d_Mo_ruleText_162 (by decide) ?_
                    refine lv_imul hx hb d_Mo_ruleText_163 ?_
                    rw [show (nI k) * (nI 3) = nI (k * 3) from pk_mul _ _]
                    refine lv_iload hx hb d_Mo_ruleText_164 (lv_at hl 3 rfl) ?_
                    refine lv_iadd hx hb d_Mo_ruleText_166 ?_
                    rw [show (nI (k * 3)) + (nI p0) = nI ((k * 3) + p0) from nI_add _ _]
                    refine gz_iald hx hb hK hP 0 m5v rfl (by omega) (by omega) d_Mo_ruleText_167 ?_
                    rw [show ml ((k * 3) + p0) = lw k p0 from relU_l hRU hk0 (by omega)]
                    have b_69 := hU.2 k p0
                    refine lv_istore (lv' := [(5, .int (nI (lw k p0))), (0, .ref h), (2, .int (nI i)), (3, .int (nI k)), (4, .int (nI p0))]) hx hb d_Mo_ruleText_168 hl (by decide) rfl (fun ls hl => ?_)
                    refine lv_aload_n hx hb d_Mo_ruleText_170 rfl (lv_at hl 1 rfl) ?_
                    refine gm_get (C := R_Mo) (T := F_Mo) (n := 44) hx hb htl i_Mo hown hK hP ehv rfl 7 (by decide) (htl _ k_750) (fun _ h => h) rfl d_Mo_ruleText_171 ?_
                    refine lv_iload_n hx hb d_Mo_ruleText_174 rfl (lv_at hl 3 rfl) ?_
                    refine lv_iconst (v := nI 3) hx hb d_Mo_ruleText_175 (by decide) ?_
                    refine lv_imul hx hb d_Mo_ruleText_176 ?_
                    rw [show (nI k) * (nI 3) = nI (k * 3) from pk_mul _ _]
                    refine lv_iload hx hb d_Mo_ruleText_177 (lv_at hl 4 rfl) ?_
                    refine lv_iadd hx hb d_Mo_ruleText_179 ?_
                    rw [show (nI (k * 3)) + (nI p0) = nI ((k * 3) + p0) from nI_add _ _]
                    refine gz_iald hx hb hK hP 0 m6v rfl (by omega) (by omega) d_Mo_ruleText_180 ?_
                    rw [show mh ((k * 3) + p0) = hw k p0 from relU_h hRU hk0 (by omega)]
                    have b_70 := hU.2 k p0
                    refine lv_istore (lv' := [(6, .int (nI (hw k p0))), (5, .int (nI (lw k p0))), (0, .ref h), (2, .int (nI i)), (3, .int (nI k)), (4, .int (nI p0))]) hx hb d_Mo_ruleText_181 hl (by decide) rfl (fun ls hl => ?_)
                    refine lv_iload hx hb d_Mo_ruleText_183 (lv_at hl 5 rfl) ?_
                    refine lz_le (tgt := 194) hx hb d_Mo_ruleText_185 (by decide) (by omega) (fun c_71 => ?_) (fun c_71 => ?_)
                    · skip
                      refine lv_iload hx hb d_Mo_ruleText_194 (lv_at hl 1 rfl) ?_
                      refine lz_ne (tgt := 216) hx hb d_Mo_ruleText_196 (by decide) (by omega) (fun c_72 => ?_) (fun c_72 => ?_)
                      · skip
                        refine lv_aload_n hx hb d_Mo_ruleText_216 rfl (lv_at hl 2 rfl) ?_
                        refine lv_iload hx hb d_Mo_ruleText_217 (lv_at hl 1 rfl) ?_
                        refine gc_V (q := (R_Mo, F_Mo, 44)) (n := 1) [.int (nI (lw k p0))] [] hx hb hml hown hts hK hN hX hP hS (c_Mo_sayNumber ehv m9v htf (by have := digs_len (lw k p0); have := digs_len (hw k p0); first | omega | (simp only [List.length_append, List.length_singleton, List.length_nil]; omega)) (by omega)) rfl ehv k_915 k_917 ks_Mo_sayNumber k_10 k_918 (by decide +kernel) ⟨by decide, by decide⟩ rfl hl.1 rfl (Nat.le_of_ble_eq_true rfl) d_Mo_ruleText_219 ⟨by decide, by decide⟩ (fun r N1 M_73 H locs hw hP hS => ?_)
                        obtain ⟨rfl, hw⟩ := hw
                        obtain ⟨gtv_74, c_75, rfl⟩ := hw
                        have h_76 := gm_pass (k := (h + 9)) (y := .inl (ca 0, 40, .inl (iN gtv_74))) ehv (gm_ne ehv m9v (fun h => by cases h))
                        have h_77 := gm_pass (k := (h + 9)) (y := .inl (ca 0, 40, .inl (iN gtv_74))) m5v (gm_ne m5v m9v (fun h => by simp at h))
                        have h_78 := gm_pass (k := (h + 9)) (y := .inl (ca 0, 40, .inl (iN gtv_74))) m6v (gm_ne m6v m9v (fun h => by simp at h))
                        have h_79 := gm_up_self Mv (h + 9) (.inl (ca 0, 40, .inl (iN gtv_74)))
                        have hP : gm_P D cls A N (gm_up (gm_up Mv (h + 9) (.inl (ca 0, 40, .inl (iN gtv_74)))) h (moO h (nI le) bp (nI nr) (nI wh) (nI (tq ++ digs (lw k p0)).length) (nI ne) (nI nf) (nI na) (nI an) (nI tm) (nI cn) (nI cs) (nI bd) (nI lt) (nI nt) fx fy)) H := hP
                        have h_80 := gm_pass (k := h) (y := moO h (nI le) bp (nI nr) (nI wh) (nI (tq ++ digs (lw k p0)).length) (nI ne) (nI nf) (nI na) (nI an) (nI tm) (nI cn) (nI cs) (nI bd) (nI lt) (nI nt) fx fy) h_77 (gm_ne h_77 h_76 (fun h => by cases h))
                        have h_81 := gm_pass (k := h) (y := moO h (nI le) bp (nI nr) (nI wh) (nI (tq ++ digs (lw k p0)).length) (nI ne) (nI nf) (nI na) (nI an) (nI tm) (nI cn) (nI cs) (nI bd) (nI lt) (nI nt) fx fy) h_78 (gm_ne h_78 h_76 (fun h => by cases h))
                        have h_82 := gm_pass (k := h) (y := moO h (nI le) bp (nI nr) (nI wh) (nI (tq ++ digs (lw k p0)).length) (nI ne) (nI nf) (nI na) (nI an) (nI tm) (nI cn) (nI cs) (nI bd) (nI lt) (nI nt) fx fy) h_79 (gm_ne h_79 h_76 (fun h => by cases h))
                        have h_83 := gm_up_self (gm_up Mv (h + 9) (.inl (ca 0, 40, .inl (iN gtv_74)))) h (moO h (nI le) bp (nI nr) (nI wh) (nI (tq ++ digs (lw k p0)).length) (nI ne) (nI nf) (nI na) (nI an) (nI tm) (nI cn) (nI cs) (nI bd) (nI lt) (nI nt) fx fy)
                        refine W.eq (g2 := F0 m 222 ls []) rfl ?_
                        refine lv_iload hx hb d_Mo_ruleText_222 (lv_at hl 1 rfl) ?_
                        refine lv_iload hx hb d_Mo_ruleText_224 (lv_at hl 0 rfl) ?_
                        refine ln_ne (tgt := 232) hx hb d_Mo_ruleText_226 (by decide) (by omega) (by omega) (fun c_84 => ?_) (fun c_84 => ?_)
                        · skip
                          refine lv_aload_n hx hb d_Mo_ruleText_232 rfl (lv_at hl 2 rfl) ?_
                          refine lv_bipush (v := nI 45) hx hb d_Mo_ruleText_233 (by decide) ?_
                          refine gc_V (q := (R_Mo, F_Mo, 44)) (n := 1) [.int (nI 45)] [] hx hb hml hown hts hK hN hX hP hS (c_Mo_say h_83 h_82 c_75 (by have := hU.2 k 0; have := hU.2 k 0; first | omega | (simp only [List.length_append, List.length_singleton, List.length_nil]; omega))) rfl h_83 k_911 k_913 ks_Mo_say k_10 k_914 (by decide +kernel) ⟨by decide, by decide⟩ rfl hl.1 rfl (Nat.le_of_ble_eq_true rfl) d_Mo_ruleText_235 ⟨by decide, by decide⟩ (fun r N1 M_85 H locs hw hP hS => ?_)
                          obtain ⟨rfl, hw⟩ := hw
                          obtain ⟨gtv_86, c_87, rfl⟩ := hw
                          have he_88 : gm_up (gm_up (gm_up Mv (h + 9) (.inl (ca 0, 40, .inl (iN gtv_74)))) h (moO h (nI le) bp (nI nr) (nI wh) (nI (tq ++ digs (lw k p0)).length) (nI ne) (nI nf) (nI na) (nI an) (nI tm) (nI cn) (nI cs) (nI bd) (nI lt) (nI nt) fx fy)) (h + 9) (.inl (ca 0, 40, .inl (iN gtv_86))) = gm_up (gm_up Mv (h + 9) (.inl (ca 0, 40, .inl (iN gtv_86)))) h (moO h (nI le) bp (nI nr) (nI wh) (nI (tq ++ digs (lw k p0)).length) (nI ne) (nI nf) (nI na) (nI an) (nI tm) (nI cn) (nI cs) (nI bd) (nI lt) (nI nt) fx fy) := (gm_swap (gm_ne h_83 h_82 (fun h => by cases h))).trans (congrArg (fun Z => gm_up Z h (moO h (nI le) bp (nI nr) (nI wh) (nI (tq ++ digs (lw k p0)).length) (nI ne) (nI nf) (nI na) (nI an) (nI tm) (nI cn) (nI cs) (nI bd) (nI lt) (nI nt) fx fy)) (gm_up_up _ _ _ _))
                          have hP := Eq.mp (congrArg (fun Z => gm_P D cls A N (gm_up Z h (moO h (nI le) bp (nI nr) (nI wh) (nI ((tq ++ digs (lw k p0)) ++ [45]).length) (nI ne) (nI nf) (nI na) (nI an) (nI tm) (nI cn) (nI cs) (nI bd) (nI lt) (nI nt) fx fy)) H) he_88) hP
                          have h_89 := (congrFun he_88 _).symm.trans (gm_pass (k := (h + 9)) (y := .inl (ca 0, 40, .inl (iN gtv_86))) h_80 (gm_ne h_80 h_82 (fun h => by simp at h)))
                          have h_90 := (congrFun he_88 _).symm.trans (gm_pass (k := (h + 9)) (y := .inl (ca 0, 40, .inl (iN gtv_86))) h_81 (gm_ne h_81 h_82 (fun h => by simp at h)))
                          have h_91 := (congrFun he_88 _).symm.trans (gm_pass (k := (h + 9)) (y := .inl (ca 0, 40, .inl (iN gtv_86))) h_83 (gm_ne h_83 h_82 (fun h => by cases h)))
                          have h_92 := (congrFun he_88 _).symm.trans (gm_up_self (gm_up (gm_up Mv (h + 9) (.inl (ca 0, 40, .inl (iN gtv_74)))) h (moO h (nI le) bp (nI nr) (nI wh) (nI (tq ++ digs (lw k p0)).length) (nI ne) (nI nf) (nI na) (nI an) (nI tm) (nI cn) (nI cs) (nI bd) (nI lt) (nI nt) fx fy)) (h + 9) (.inl (ca 0, 40, .inl (iN gtv_86))))
                          have he_93 : gm_up (gm_up (gm_up Mv (h + 9) (.inl (ca 0, 40, .inl (iN gtv_86)))) h (moO h (nI le) bp (nI nr) (nI wh) (nI (tq ++ digs (lw k p0)).length) (nI ne) (nI nf) (nI na) (nI an) (nI tm) (nI cn) (nI cs) (nI bd) (nI lt) (nI nt) fx fy)) h (moO h (nI le) bp (nI nr) (nI wh) (nI ((tq ++ digs (lw k p0)) ++ [45]).length) (nI ne) (nI nf) (nI na) (nI an) (nI tm) (nI cn) (nI cs) (nI bd) (nI lt) (nI nt) fx fy) = gm_up (gm_up Mv (h + 9) (.inl (ca 0, 40, .inl (iN gtv_86)))) h (moO h (nI le) bp (nI nr) (nI wh) (nI ((tq ++ digs (lw k p0)) ++ [45]).length) (nI ne) (nI nf) (nI na) (nI an) (nI tm) (nI cn) (nI cs) (nI bd) (nI lt) (nI nt) fx fy) := gm_up_up _ _ _ _
                          have hP := Eq.mp (congrArg (fun Z => gm_P D cls A N (Z) H) he_93) hP
                          have hP : gm_P D cls A N (gm_up (gm_up Mv (h + 9) (.inl (ca 0, 40, .inl (iN gtv_86)))) h (moO h (nI le) bp (nI nr) (nI wh) (nI ((tq ++ digs (lw k p0)) ++ [45]).length) (nI ne) (nI nf) (nI na) (nI an) (nI tm) (nI cn) (nI cs) (nI bd) (nI lt) (nI nt) fx fy)) H := hP
                          have h_94 := (congrFun he_93 _).symm.trans (gm_pass (k := h) (y := moO h (nI le) bp (nI nr) (nI wh) (nI ((tq ++ digs (lw k p0)) ++ [45]).length) (nI ne) (nI nf) (nI na) (nI an) (nI tm) (nI cn) (nI cs) (nI bd) (nI lt) (nI nt) fx fy) h_89 (gm_ne h_89 h_91 (fun h => by cases h)))
                          have h_95 := (congrFun he_93 _).symm.trans (gm_pass (k := h) (y := moO h (nI le) bp (nI nr) (nI wh) (nI ((tq ++ digs (lw k p0)) ++ [45]).length) (nI ne) (nI nf) (nI na) (nI an) (nI tm) (nI cn) (nI cs) (nI bd) (nI lt) (nI nt) fx fy) h_90 (gm_ne h_90 h_91 (fun h => by cases h)))
                          have h_96 := (congrFun he_93 _).symm.trans (gm_pass (k := h) (y := moO h (nI le) bp (nI nr) (nI wh) (nI ((tq ++ digs (lw k p0)) ++ [45]).length) (nI ne) (nI nf) (nI na) (nI an) (nI tm) (nI cn) (nI cs) (nI bd) (nI lt) (nI nt) fx fy) h_92 (gm_ne h_92 h_91 (fun h => by cases h)))
                          have h_97 := (congrFun he_93 _).symm.trans (gm_up_self (gm_up (gm_up Mv (h + 9) (.inl (ca 0, 40, .inl (iN gtv_86)))) h (moO h (nI le) bp (nI nr) (nI wh) (nI (tq ++ digs (lw k p0)).length) (nI ne) (nI nf) (nI na) (nI an) (nI tm) (nI cn) (nI cs) (nI bd) (nI lt) (nI nt) fx fy)) h (moO h (nI le) bp (nI nr) (nI wh) (nI ((tq ++ digs (lw k p0)) ++ [45]).length) (nI ne) (nI nf) (nI na) (nI an) (nI tm) (nI cn) (nI cs) (nI bd) (nI lt) (nI nt) fx fy))
                          refine W.eq (g2 := F0 m 238 ls []) rfl ?_
                          refine lv_aload_n hx hb d_Mo_ruleText_238 rfl (lv_at hl 2 rfl) ?_
                          refine lv_iload hx hb d_Mo_ruleText_239 (lv_at hl 0 rfl) ?_
                          refine gc_V (q := (R_Mo, F_Mo, 44)) (n := 1) [.int (nI (hw k p0))] [] hx hb hml hown hts hK hN hX hP hS (c_Mo_sayNumber h_97 h_96 c_87 (by have := digs_len (lw k p0); have := digs_len (hw k p0); first | omega | (simp only [List.length_append, List.length_singleton, List.length_nil]; omega)) (by omega)) rfl h_97 k_915 k_917 ks_Mo_sayNumber k_10 k_918 (by decide +kernel) ⟨by decide, by decide⟩ rfl hl.1 rfl (Nat.le_of_ble_eq_true rfl) d_Mo_ruleText_241 ⟨by decide, by decide⟩ (fun r N1 M_98 H locs hw hP hS => ?_)
                          obtain ⟨rfl, hw⟩ := hw
                          obtain ⟨gtv_99, c_100, rfl⟩ := hw
                          have he_101 : gm_up (gm_up (gm_up Mv (h + 9) (.inl (ca 0, 40, .inl (iN gtv_86)))) h (moO h (nI le) bp (nI nr) (nI wh) (nI ((tq ++ digs (lw k p0)) ++ [45]).length) (nI ne) (nI nf) (nI na) (nI an) (nI tm) (nI cn) (nI cs) (nI bd) (nI lt) (nI nt) fx fy)) (h + 9) (.inl (ca 0, 40, .inl (iN gtv_99))) = gm_up (gm_up Mv (h + 9) (.inl (ca 0, 40, .inl (iN gtv_99)))) h (moO h (nI le) bp (nI nr) (nI wh) (nI ((tq ++ digs (lw k p0)) ++ [45]).length) (nI ne) (nI nf) (nI na) (nI an) (nI tm) (nI cn) (nI cs) (nI bd) (nI lt) (nI nt) fx fy) := (gm_swap (gm_ne h_97 h_96 (fun h => by cases h))).trans (congrArg (fun Z => gm_up Z h (moO h (nI le) bp (nI nr) (nI wh) (nI ((tq ++ digs (lw k p0)) ++ [45]).length) (nI ne) (nI nf) (nI na) (nI an) (nI tm) (nI cn) (nI cs) (nI bd) (nI lt) (nI nt) fx fy)) (gm_up_up _ _ _ _))
                          have hP := Eq.mp (congrArg (fun Z => gm_P D cls A N (gm_up Z h (moO h (nI le) bp (nI nr) (nI wh) (nI (((tq ++ digs (lw k p0)) ++ [45]) ++ digs (hw k p0)).length) (nI ne) (nI nf) (nI na) (nI an) (nI tm) (nI cn) (nI cs) (nI bd) (nI lt) (nI nt) fx fy)) H) he_101) hP
                          have h_102 := (congrFun he_101 _).symm.trans (gm_pass (k := (h + 9)) (y := .inl (ca 0, 40, .inl (iN gtv_99))) h_94 (gm_ne h_94 h_96 (fun h => by simp at h)))
                          have h_103 := (congrFun he_101 _).symm.trans (gm_pass (k := (h + 9)) (y := .inl (ca 0, 40, .inl (iN gtv_99))) h_95 (gm_ne h_95 h_96 (fun h => by simp at h)))
                          have h_104 := (congrFun he_101 _).symm.trans (gm_pass (k := (h + 9)) (y := .inl (ca 0, 40, .inl (iN gtv_99))) h_97 (gm_ne h_97 h_96 (fun h => by cases h)))
                          have h_105 := (congrFun he_101 _).symm.trans (gm_up_self (gm_up (gm_up Mv (h + 9) (.inl (ca 0, 40, .inl (iN gtv_86)))) h (moO h (nI le) bp (nI nr) (nI wh) (nI ((tq ++ digs (lw k p0)) ++ [45]).length) (nI ne) (nI nf) (nI na) (nI an) (nI tm) (nI cn) (nI cs) (nI bd) (nI lt) (nI nt) fx fy)) (h + 9) (.inl (ca 0, 40, .inl (iN gtv_99))))
                          have he_106 : gm_up (gm_up (gm_up Mv (h + 9) (.inl (ca 0, 40, .inl (iN gtv_99)))) h (moO h (nI le) bp (nI nr) (nI wh) (nI ((tq ++ digs (lw k p0)) ++ [45]).length) (nI ne) (nI nf) (nI na) (nI an) (nI tm) (nI cn) (nI cs) (nI bd) (nI lt) (nI nt) fx fy)) h (moO h (nI le) bp (nI nr) (nI wh) (nI (((tq ++ digs (lw k p0)) ++ [45]) ++ digs (hw k p0)).length) (nI ne) (nI nf) (nI na) (nI an) (nI tm) (nI cn) (nI cs) (nI bd) (nI lt) (nI nt) fx fy) = gm_up (gm_up Mv (h + 9) (.inl (ca 0, 40, .inl (iN gtv_99)))) h (moO h (nI le) bp (nI nr) (nI wh) (nI (((tq ++ digs (lw k p0)) ++ [45]) ++ digs (hw k p0)).length) (nI ne) (nI nf) (nI na) (nI an) (nI tm) (nI cn) (nI cs) (nI bd) (nI lt) (nI nt) fx fy) := gm_up_up _ _ _ _
                          have hP := Eq.mp (congrArg (fun Z => gm_P D cls A N (Z) H) he_106) hP
                          have hP : gm_P D cls A N (gm_up (gm_up Mv (h + 9) (.inl (ca 0, 40, .inl (iN gtv_99)))) h (moO h (nI le) bp (nI nr) (nI wh) (nI (((tq ++ digs (lw k p0)) ++ [45]) ++ digs (hw k p0)).length) (nI ne) (nI nf) (nI na) (nI an) (nI tm) (nI cn) (nI cs) (nI bd) (nI lt) (nI nt) fx fy)) H := hP
                          have h_107 := (congrFun he_106 _).symm.trans (gm_pass (k := h) (y := moO h (nI le) bp (nI nr) (nI wh) (nI (((tq ++ digs (lw k p0)) ++ [45]) ++ digs (hw k p0)).length) (nI ne) (nI nf) (nI na) (nI an) (nI tm) (nI cn) (nI cs) (nI bd) (nI lt) (nI nt) fx fy) h_102 (gm_ne h_102 h_104 (fun h => by cases h)))
                          have h_108 := (congrFun he_106 _).symm.trans (gm_pass (k := h) (y := moO h (nI le) bp (nI nr) (nI wh) (nI (((tq ++ digs (lw k p0)) ++ [45]) ++ digs (hw k p0)).length) (nI ne) (nI nf) (nI na) (nI an) (nI tm) (nI cn) (nI cs) (nI bd) (nI lt) (nI nt) fx fy) h_103 (gm_ne h_103 h_104 (fun h => by cases h)))
                          have h_109 := (congrFun he_106 _).symm.trans (gm_pass (k := h) (y := moO h (nI le) bp (nI nr) (nI wh) (nI (((tq ++ digs (lw k p0)) ++ [45]) ++ digs (hw k p0)).length) (nI ne) (nI nf) (nI na) (nI an) (nI tm) (nI cn) (nI cs) (nI bd) (nI lt) (nI nt) fx fy) h_105 (gm_ne h_105 h_104 (fun h => by cases h)))
                          have h_110 := (congrFun he_106 _).symm.trans (gm_up_self (gm_up (gm_up Mv (h + 9) (.inl (ca 0, 40, .inl (iN gtv_99)))) h (moO h (nI le) bp (nI nr) (nI wh) (nI ((tq ++ digs (lw k p0)) ++ [45]).length) (nI ne) (nI nf) (nI na) (nI an) (nI tm) (nI cn) (nI cs) (nI bd) (nI lt) (nI nt) fx fy)) h (moO h (nI le) bp (nI nr) (nI wh) (nI (((tq ++ digs (lw k p0)) ++ [45]) ++ digs (hw k p0)).length) (nI ne) (nI nf) (nI na) (nI an) (nI tm) (nI cn) (nI cs) (nI bd) (nI lt) (nI nt) fx fy))
                          refine W.eq (g2 := F0 m 244 ls []) rfl ?_
                          refine lv_iinc (v := nI (p0 + 1)) (lv' := [(4, .int (nI (p0 + 1))), (6, .int (nI (hw k p0))), (5, .int (nI (lw k p0))), (0, .ref h), (2, .int (nI i)), (3, .int (nI k))]) hx hb d_Mo_ruleText_244 hl (k := 5) rfl (nI_1 p0) (by decide) rfl (fun ls hl => ?_)
                          refine lv_goto (tgt := 151) hx hb d_Mo_ruleText_247 (by decide) ?_
                          exact ih_151 (p0 + 1) (((tq ++ digs (lw k p0)) ++ [45]) ++ digs (hw k p0)) gtv_99 _ ls _ _ h_110 h_107 h_108 h_109 (by omega) (by rw [rtP_s, ← htq]; unfold rgx; (repeat (first | rw [if_pos (by omega)] | rw [if_neg (by omega)])); (try simp only [List.append_assoc, List.append_nil])) c_100 (fun z q0 q9 => (gm_up_ne _ _ q0).trans ((gm_up_ne _ _ q9).trans ((hfrv z q0 q9).trans (rfl)))) (by omega) hP hS (lv_sub hl [3, 4, 5, 0] rfl)
                        · skip
                          refine lv_goto (tgt := 244) hx hb d_Mo_ruleText_229 (by decide) ?_
                          refine lv_iinc (v := nI (p0 + 1)) (lv' := [(4, .int (nI (p0 + 1))), (6, .int (nI (hw k p0))), (5, .int (nI (lw k p0))), (0, .ref h), (2, .int (nI i)), (3, .int (nI k))]) hx hb d_Mo_ruleText_244 hl (k := 5) rfl (nI_1 p0) (by decide) rfl (fun ls hl => ?_)
                          refine lv_goto (tgt := 151) hx hb d_Mo_ruleText_247 (by decide) ?_
                          exact ih_151 (p0 + 1) (tq ++ digs (lw k p0)) gtv_74 _ ls _ _ h_83 h_80 h_81 h_82 (by omega) (by rw [rtP_s, ← htq]; unfold rgx; (repeat (first | rw [if_pos (by omega)] | rw [if_neg (by omega)])); (try simp only [List.append_assoc, List.append_nil])) c_75 (fun z q0 q9 => (gm_up_ne _ _ q0).trans ((gm_up_ne _ _ q9).trans ((hfrv z q0 q9).trans (rfl)))) (by omega) hP hS (lv_sub hl [3, 4, 5, 0] rfl)
                      · skip
                        refine lv_iload hx hb d_Mo_ruleText_199 (lv_at hl 0 rfl) ?_
                        refine lv_sipush (v := nI 255) hx hb d_Mo_ruleText_201 (by decide) ?_
                        refine ln_ne (tgt := 216) hx hb d_Mo_ruleText_204 (by decide) (by omega) (by omega) (fun c_111 => ?_) (fun c_111 => ?_)
                        · skip
                          refine lv_aload_n hx hb d_Mo_ruleText_216 rfl (lv_at hl 2 rfl) ?_
                          refine lv_iload hx hb d_Mo_ruleText_217 (lv_at hl 1 rfl) ?_
                          refine gc_V (q := (R_Mo, F_Mo, 44)) (n := 1) [.int (nI (lw k p0))] [] hx hb hml hown hts hK hN hX hP hS (c_Mo_sayNumber ehv m9v htf (by have := digs_len (lw k p0); have := digs_len (hw k p0); first | omega | (simp only [List.length_append, List.length_singleton, List.length_nil]; omega)) (by omega)) rfl ehv k_915 k_917 ks_Mo_sayNumber k_10 k_918 (by decide +kernel) ⟨by decide, by decide⟩ rfl hl.1 rfl (Nat.le_of_ble_eq_true rfl) d_Mo_ruleText_219 ⟨by decide, by decide⟩ (fun r N1 M_112 H locs hw hP hS => ?_)
                          obtain ⟨rfl, hw⟩ := hw
                          obtain ⟨gtv_113, c_114, rfl⟩ := hw
                          have h_115 := gm_pass (k := (h + 9)) (y := .inl (ca 0, 40, .inl (iN gtv_113))) ehv (gm_ne ehv m9v (fun h => by cases h))
                          have h_116 := gm_pass (k := (h + 9)) (y := .inl (ca 0, 40, .inl (iN gtv_113))) m5v (gm_ne m5v m9v (fun h => by simp at h))
                          have h_117 := gm_pass (k := (h + 9)) (y := .inl (ca 0, 40, .inl (iN gtv_113))) m6v (gm_ne m6v m9v (fun h => by simp at h))
                          have h_118 := gm_up_self Mv (h + 9) (.inl (ca 0, 40, .inl (iN gtv_113)))
                          have hP : gm_P D cls A N (gm_up (gm_up Mv (h + 9) (.inl (ca 0, 40, .inl (iN gtv_113)))) h (moO h (nI le) bp (nI nr) (nI wh) (nI (tq ++ digs (lw k p0)).length) (nI ne) (nI nf) (nI na) (nI an) (nI tm) (nI cn) (nI cs) (nI bd) (nI lt) (nI nt) fx fy)) H := hP
                          have h_119 := gm_pass (k := h) (y := moO h (nI le) bp (nI nr) (nI wh) (nI (tq ++ digs (lw k p0)).length) (nI ne) (nI nf) (nI na) (nI an) (nI tm) (nI cn) (nI cs) (nI bd) (nI lt) (nI nt) fx fy) h_116 (gm_ne h_116 h_115 (fun h => by cases h))
                          have h_120 := gm_pass (k := h) (y := moO h (nI le) bp (nI nr) (nI wh) (nI (tq ++ digs (lw k p0)).length) (nI ne) (nI nf) (nI na) (nI an) (nI tm) (nI cn) (nI cs) (nI bd) (nI lt) (nI nt) fx fy) h_117 (gm_ne h_117 h_115 (fun h => by cases h))
                          have h_121 := gm_pass (k := h) (y := moO h (nI le) bp (nI nr) (nI wh) (nI (tq ++ digs (lw k p0)).length) (nI ne) (nI nf) (nI na) (nI an) (nI tm) (nI cn) (nI cs) (nI bd) (nI lt) (nI nt) fx fy) h_118 (gm_ne h_118 h_115 (fun h => by cases h))
                          have h_122 := gm_up_self (gm_up Mv (h + 9) (.inl (ca 0, 40, .inl (iN gtv_113)))) h (moO h (nI le) bp (nI nr) (nI wh) (nI (tq ++ digs (lw k p0)).length) (nI ne) (nI nf) (nI na) (nI an) (nI tm) (nI cn) (nI cs) (nI bd) (nI lt) (nI nt) fx fy)
                          refine W.eq (g2 := F0 m 222 ls []) rfl ?_
                          refine lv_iload hx hb d_Mo_ruleText_222 (lv_at hl 1 rfl) ?_
                          refine lv_iload hx hb d_Mo_ruleText_224 (lv_at hl 0 rfl) ?_
                          refine ln_ne (tgt := 232) hx hb d_Mo_ruleText_226 (by decide) (by omega) (by omega) (fun c_123 => ?_) (fun c_123 => ?_)
                          · skip
                            refine lv_aload_n hx hb d_Mo_ruleText_232 rfl (lv_at hl 2 rfl) ?_
                            refine lv_bipush (v := nI 45) hx hb d_Mo_ruleText_233 (by decide) ?_
                            refine gc_V (q := (R_Mo, F_Mo, 44)) (n := 1) [.int (nI 45)] [] hx hb hml hown hts hK hN hX hP hS (c_Mo_say h_122 h_121 c_114 (by have := hU.2 k 0; have := hU.2 k 0; first | omega | (simp only [List.length_append, List.length_singleton, List.length_nil]; omega))) rfl h_122 k_911 k_913 ks_Mo_say k_10 k_914 (by decide +kernel) ⟨by decide, by decide⟩ rfl hl.1 rfl (Nat.le_of_ble_eq_true rfl) d_Mo_ruleText_235 ⟨by decide, by decide⟩ (fun r N1 M_124 H locs hw hP hS => ?_)
                            obtain ⟨rfl, hw⟩ := hw
                            obtain ⟨gtv_125, c_126, rfl⟩ := hw
                            have he_127 : gm_up (gm_up (gm_up Mv (h + 9) (.inl (ca 0, 40, .inl (iN gtv_113)))) h (moO h (nI le) bp (nI nr) (nI wh) (nI (tq ++ digs (lw k p0)).length) (nI ne) (nI nf) (nI na) (nI an) (nI tm) (nI cn) (nI cs) (nI bd) (nI lt) (nI nt) fx fy)) (h + 9) (.inl (ca 0, 40, .inl (iN gtv_125))) = gm_up (gm_up Mv (h + 9) (.inl (ca 0, 40, .inl (iN gtv_125)))) h (moO h (nI le) bp (nI nr) (nI wh) (nI (tq ++ digs (lw k p0)).length) (nI ne) (nI nf) (nI na) (nI an) (nI tm) (nI cn) (nI cs) (nI bd) (nI lt) (nI nt) fx fy) := (gm_swap (gm_ne h_122 h_121 (fun h => by cases h))).trans (congrArg (fun Z => gm_up Z h (moO h (nI le) bp (nI nr) (nI wh) (nI (tq ++ digs (lw k p0)).length) (nI ne) (nI nf) (nI na) (nI an) (nI tm) (nI cn) (nI cs) (nI bd) (nI lt) (nI nt) fx fy)) (gm_up_up _ _ _ _))
                            have hP := Eq.mp (congrArg (fun Z => gm_P D cls A N (gm_up Z h (moO h (nI le) bp (nI nr) (nI wh) (nI ((tq ++ digs (lw k p0)) ++ [45]).length) (nI ne) (nI nf) (nI na) (nI an) (nI tm) (nI cn) (nI cs) (nI bd) (nI lt) (nI nt) fx fy)) H) he_127) hP
                            have h_128 := (congrFun he_127 _).symm.trans (gm_pass (k := (h + 9)) (y := .inl (ca 0, 40, .inl (iN gtv_125))) h_119 (gm_ne h_119 h_121 (fun h => by simp at h)))
                            have h_129 := (congrFun he_127 _).symm.trans (gm_pass (k := (h + 9)) (y := .inl (ca 0, 40, .inl (iN gtv_125))) h_120 (gm_ne h_120 h_121 (fun h => by simp at h)))
                            have h_130 := (congrFun he_127 _).symm.trans (gm_pass (k := (h + 9)) (y := .inl (ca 0, 40, .inl (iN gtv_125))) h_122 (gm_ne h_122 h_121 (fun h => by cases h)))
                            have h_131 := (congrFun he_127 _).symm.trans (gm_up_self (gm_up (gm_up Mv (h + 9) (.inl (ca 0, 40, .inl (iN gtv_113)))) h (moO h (nI le) bp (nI nr) (nI wh) (nI (tq ++ digs (lw k p0)).length) (nI ne) (nI nf) (nI na) (nI an) (nI tm) (nI cn) (nI cs) (nI bd) (nI lt) (nI nt) fx fy)) (h + 9) (.inl (ca 0, 40, .inl (iN gtv_125))))
                            have he_132 : gm_up (gm_up (gm_up Mv (h + 9) (.inl (ca 0, 40, .inl (iN gtv_125)))) h (moO h (nI le) bp (nI nr) (nI wh) (nI (tq ++ digs (lw k p0)).length) (nI ne) (nI nf) (nI na) (nI an) (nI tm) (nI cn) (nI cs) (nI bd) (nI lt) (nI nt) fx fy)) h (moO h (nI le) bp (nI nr) (nI wh) (nI ((tq ++ digs (lw k p0)) ++ [45]).length) (nI ne) (nI nf) (nI na) (nI an) (nI tm) (nI cn) (nI cs) (nI bd) (nI lt) (nI nt) fx fy) = gm_up (gm_up Mv (h + 9) (.inl (ca 0, 40, .inl (iN gtv_125)))) h (moO h (nI le) bp (nI nr) (nI wh) (nI ((tq ++ digs (lw k p0)) ++ [45]).length) (nI ne) (nI nf) (nI na) (nI an) (nI tm) (nI cn) (nI cs) (nI bd) (nI lt) (nI nt) fx fy) := gm_up_up _ _ _ _
                            have hP := Eq.mp (congrArg (fun Z => gm_P D cls A N (Z) H) he_132) hP
                            have hP : gm_P D cls A N (gm_up (gm_up Mv (h + 9) (.inl (ca 0, 40, .inl (iN gtv_125)))) h (moO h (nI le) bp (nI nr) (nI wh) (nI ((tq ++ digs (lw k p0)) ++ [45]).length) (nI ne) (nI nf) (nI na) (nI an) (nI tm) (nI cn) (nI cs) (nI bd) (nI lt) (nI nt) fx fy)) H := hP
                            have h_133 := (congrFun he_132 _).symm.trans (gm_pass (k := h) (y := moO h (nI le) bp (nI nr) (nI wh) (nI ((tq ++ digs (lw k p0)) ++ [45]).length) (nI ne) (nI nf) (nI na) (nI an) (nI tm) (nI cn) (nI cs) (nI bd) (nI lt) (nI nt) fx fy) h_128 (gm_ne h_128 h_130 (fun h => by cases h)))
                            have h_134 := (congrFun he_132 _).symm.trans (gm_pass (k := h) (y := moO h (nI le) bp (nI nr) (nI wh) (nI ((tq ++ digs (lw k p0)) ++ [45]).length) (nI ne) (nI nf) (nI na) (nI an) (nI tm) (nI cn) (nI cs) (nI bd) (nI lt) (nI nt) fx fy) h_129 (gm_ne h_129 h_130 (fun h => by cases h)))
                            have h_135 := (congrFun he_132 _).symm.trans (gm_pass (k := h) (y := moO h (nI le) bp (nI nr) (nI wh) (nI ((tq ++ digs (lw k p0)) ++ [45]).length) (nI ne) (nI nf) (nI na) (nI an) (nI tm) (nI cn) (nI cs) (nI bd) (nI lt) (nI nt) fx fy) h_131 (gm_ne h_131 h_130 (fun h => by cases h)))
                            have h_136 := (congrFun he_132 _).symm.trans (gm_up_self (gm_up (gm_up Mv (h + 9) (.inl (ca 0, 40, .inl (iN gtv_125)))) h (moO h (nI le) bp (nI nr) (nI wh) (nI (tq ++ digs (lw k p0)).length) (nI ne) (nI nf) (nI na) (nI an) (nI tm) (nI cn) (nI cs) (nI bd) (nI lt) (nI nt) fx fy)) h (moO h (nI le) bp (nI nr) (nI wh) (nI ((tq ++ digs (lw k p0)) ++ [45]).length) (nI ne) (nI nf) (nI na) (nI an) (nI tm) (nI cn) (nI cs) (nI bd) (nI lt) (nI nt) fx fy))
                            refine W.eq (g2 := F0 m 238 ls []) rfl ?_
                            refine lv_aload_n hx hb d_Mo_ruleText_238 rfl (lv_at hl 2 rfl) ?_
                            refine lv_iload hx hb d_Mo_ruleText_239 (lv_at hl 0 rfl) ?_
                            refine gc_V (q := (R_Mo, F_Mo, 44)) (n := 1) [.int (nI (hw k p0))] [] hx hb hml hown hts hK hN hX hP hS (c_Mo_sayNumber h_136 h_135 c_126 (by have := digs_len (lw k p0); have := digs_len (hw k p0); first | omega | (simp only [List.length_append, List.length_singleton, List.length_nil]; omega)) (by omega)) rfl h_136 k_915 k_917 ks_Mo_sayNumber k_10 k_918 (by decide +kernel) ⟨by decide, by decide⟩ rfl hl.1 rfl (Nat.le_of_ble_eq_true rfl) d_Mo_ruleText_241 ⟨by decide, by decide⟩ (fun r N1 M_137 H locs hw hP hS => ?_)
                            obtain ⟨rfl, hw⟩ := hw
                            obtain ⟨gtv_138, c_139, rfl⟩ := hw
                            have he_140 : gm_up (gm_up (gm_up Mv (h + 9) (.inl (ca 0, 40, .inl (iN gtv_125)))) h (moO h (nI le) bp (nI nr) (nI wh) (nI ((tq ++ digs (lw k p0)) ++ [45]).length) (nI ne) (nI nf) (nI na) (nI an) (nI tm) (nI cn) (nI cs) (nI bd) (nI lt) (nI nt) fx fy)) (h + 9) (.inl (ca 0, 40, .inl (iN gtv_138))) = gm_up (gm_up Mv (h + 9) (.inl (ca 0, 40, .inl (iN gtv_138)))) h (moO h (nI le) bp (nI nr) (nI wh) (nI ((tq ++ digs (lw k p0)) ++ [45]).length) (nI ne) (nI nf) (nI na) (nI an) (nI tm) (nI cn) (nI cs) (nI bd) (nI lt) (nI nt) fx fy) := (gm_swap (gm_ne h_136 h_135 (fun h => by cases h))).trans (congrArg (fun Z => gm_up Z h (moO h (nI le) bp (nI nr) (nI wh) (nI ((tq ++ digs (lw k p0)) ++ [45]).length) (nI ne) (nI nf) (nI na) (nI an) (nI tm) (nI cn) (nI cs) (nI bd) (nI lt) (nI nt) fx fy)) (gm_up_up _ _ _ _))
                            have hP := Eq.mp (congrArg (fun Z => gm_P D cls A N (gm_up Z h (moO h (nI le) bp (nI nr) (nI wh) (nI (((tq ++ digs (lw k p0)) ++ [45]) ++ digs (hw k p0)).length) (nI ne) (nI nf) (nI na) (nI an) (nI tm) (nI cn) (nI cs) (nI bd) (nI lt) (nI nt) fx fy)) H) he_140) hP
                            have h_141 := (congrFun he_140 _).symm.trans (gm_pass (k := (h + 9)) (y := .inl (ca 0, 40, .inl (iN gtv_138))) h_133 (gm_ne h_133 h_135 (fun h => by simp at h)))
                            have h_142 := (congrFun he_140 _).symm.trans (gm_pass (k := (h + 9)) (y := .inl (ca 0, 40, .inl (iN gtv_138))) h_134 (gm_ne h_134 h_135 (fun h => by simp at h)))
                            have h_143 := (congrFun he_140 _).symm.trans (gm_pass (k := (h + 9)) (y := .inl (ca 0, 40, .inl (iN gtv_138))) h_136 (gm_ne h_136 h_135 (fun h => by cases h)))
                            have h_144 := (congrFun he_140 _).symm.trans (gm_up_self (gm_up (gm_up Mv (h + 9) (.inl (ca 0, 40, .inl (iN gtv_125)))) h (moO h (nI le) bp (nI nr) (nI wh) (nI ((tq ++ digs (lw k p0)) ++ [45]).length) (nI ne) (nI nf) (nI na) (nI an) (nI tm) (nI cn) (nI cs) (nI bd) (nI lt) (nI nt) fx fy)) (h + 9) (.inl (ca 0, 40, .inl (iN gtv_138))))
                            have he_145 : gm_up (gm_up (gm_up Mv (h + 9) (.inl (ca 0, 40, .inl (iN gtv_138)))) h (moO h (nI le) bp (nI nr) (nI wh) (nI ((tq ++ digs (lw k p0)) ++ [45]).length) (nI ne) (nI nf) (nI na) (nI an) (nI tm) (nI cn) (nI cs) (nI bd) (nI lt) (nI nt) fx fy)) h (moO h (nI le) bp (nI nr) (nI wh) (nI (((tq ++ digs (lw k p0)) ++ [45]) ++ digs (hw k p0)).length) (nI ne) (nI nf) (nI na) (nI an) (nI tm) (nI cn) (nI cs) (nI bd) (nI lt) (nI nt) fx fy) = gm_up (gm_up Mv (h + 9) (.inl (ca 0, 40, .inl (iN gtv_138)))) h (moO h (nI le) bp (nI nr) (nI wh) (nI (((tq ++ digs (lw k p0)) ++ [45]) ++ digs (hw k p0)).length) (nI ne) (nI nf) (nI na) (nI an) (nI tm) (nI cn) (nI cs) (nI bd) (nI lt) (nI nt) fx fy) := gm_up_up _ _ _ _
                            have hP := Eq.mp (congrArg (fun Z => gm_P D cls A N (Z) H) he_145) hP
                            have hP : gm_P D cls A N (gm_up (gm_up Mv (h + 9) (.inl (ca 0, 40, .inl (iN gtv_138)))) h (moO h (nI le) bp (nI nr) (nI wh) (nI (((tq ++ digs (lw k p0)) ++ [45]) ++ digs (hw k p0)).length) (nI ne) (nI nf) (nI na) (nI an) (nI tm) (nI cn) (nI cs) (nI bd) (nI lt) (nI nt) fx fy)) H := hP
                            have h_146 := (congrFun he_145 _).symm.trans (gm_pass (k := h) (y := moO h (nI le) bp (nI nr) (nI wh) (nI (((tq ++ digs (lw k p0)) ++ [45]) ++ digs (hw k p0)).length) (nI ne) (nI nf) (nI na) (nI an) (nI tm) (nI cn) (nI cs) (nI bd) (nI lt) (nI nt) fx fy) h_141 (gm_ne h_141 h_143 (fun h => by cases h)))
                            have h_147 := (congrFun he_145 _).symm.trans (gm_pass (k := h) (y := moO h (nI le) bp (nI nr) (nI wh) (nI (((tq ++ digs (lw k p0)) ++ [45]) ++ digs (hw k p0)).length) (nI ne) (nI nf) (nI na) (nI an) (nI tm) (nI cn) (nI cs) (nI bd) (nI lt) (nI nt) fx fy) h_142 (gm_ne h_142 h_143 (fun h => by cases h)))
                            have h_148 := (congrFun he_145 _).symm.trans (gm_pass (k := h) (y := moO h (nI le) bp (nI nr) (nI wh) (nI (((tq ++ digs (lw k p0)) ++ [45]) ++ digs (hw k p0)).length) (nI ne) (nI nf) (nI na) (nI an) (nI tm) (nI cn) (nI cs) (nI bd) (nI lt) (nI nt) fx fy) h_144 (gm_ne h_144 h_143 (fun h => by cases h)))
                            have h_149 := (congrFun he_145 _).symm.trans (gm_up_self (gm_up (gm_up Mv (h + 9) (.inl (ca 0, 40, .inl (iN gtv_138)))) h (moO h (nI le) bp (nI nr) (nI wh) (nI ((tq ++ digs (lw k p0)) ++ [45]).length) (nI ne) (nI nf) (nI na) (nI an) (nI tm) (nI cn) (nI cs) (nI bd) (nI lt) (nI nt) fx fy)) h (moO h (nI le) bp (nI nr) (nI wh) (nI (((tq ++ digs (lw k p0)) ++ [45]) ++ digs (hw k p0)).length) (nI ne) (nI nf) (nI na) (nI an) (nI tm) (nI cn) (nI cs) (nI bd) (nI lt) (nI nt) fx fy))
                            refine W.eq (g2 := F0 m 244 ls []) rfl ?_
                            refine lv_iinc (v := nI (p0 + 1)) (lv' := [(4, .int (nI (p0 + 1))), (6, .int (nI (hw k p0))), (5, .int (nI (lw k p0))), (0, .ref h), (2, .int (nI i)), (3, .int (nI k))]) hx hb d_Mo_ruleText_244 hl (k := 5) rfl (nI_1 p0) (by decide) rfl (fun ls hl => ?_)
                            refine lv_goto (tgt := 151) hx hb d_Mo_ruleText_247 (by decide) ?_
                            exact ih_151 (p0 + 1) (((tq ++ digs (lw k p0)) ++ [45]) ++ digs (hw k p0)) gtv_138 _ ls _ _ h_149 h_146 h_147 h_148 (by omega) (by rw [rtP_s, ← htq]; unfold rgx; (repeat (first | rw [if_pos (by omega)] | rw [if_neg (by omega)])); (try simp only [List.append_assoc, List.append_nil])) c_139 (fun z q0 q9 => (gm_up_ne _ _ q0).trans ((gm_up_ne _ _ q9).trans ((hfrv z q0 q9).trans (rfl)))) (by omega) hP hS (lv_sub hl [3, 4, 5, 0] rfl)
                          · skip
                            refine lv_goto (tgt := 244) hx hb d_Mo_ruleText_229 (by decide) ?_
                            refine lv_iinc (v := nI (p0 + 1)) (lv' := [(4, .int (nI (p0 + 1))), (6, .int (nI (hw k p0))), (5, .int (nI (lw k p0))), (0, .ref h), (2, .int (nI i)), (3, .int (nI k))]) hx hb d_Mo_ruleText_244 hl (k := 5) rfl (nI_1 p0) (by decide) rfl (fun ls hl => ?_)
                            refine lv_goto (tgt := 151) hx hb d_Mo_ruleText_247 (by decide) ?_
                            exact ih_151 (p0 + 1) (tq ++ digs (lw k p0)) gtv_113 _ ls _ _ h_122 h_119 h_120 h_121 (by omega) (by rw [rtP_s, ← htq]; unfold rgx; (repeat (first | rw [if_pos (by omega)] | rw [if_neg (by omega)])); (try simp only [List.append_assoc, List.append_nil])) c_114 (fun z q0 q9 => (gm_up_ne _ _ q0).trans ((gm_up_ne _ _ q9).trans ((hfrv z q0 q9).trans (rfl)))) (by omega) hP hS (lv_sub hl [3, 4, 5, 0] rfl)
                        · skip
                          refine lv_aload_n hx hb d_Mo_ruleText_207 rfl (lv_at hl 2 rfl) ?_
                          refine lv_bipush (v := nI 42) hx hb d_Mo_ruleText_208 (by decide) ?_
                          refine gc_V (q := (R_Mo, F_Mo, 44)) (n := 1) [.int (nI 42)] [] hx hb hml hown hts hK hN hX hP hS (c_Mo_say ehv m9v htf (by have := hU.2 k 0; have := hU.2 k 0; first | omega | (simp only [List.length_append, List.length_singleton, List.length_nil]; omega))) rfl ehv k_911 k_913 ks_Mo_say k_10 k_914 (by decide +kernel) ⟨by decide, by decide⟩ rfl hl.1 rfl (Nat.le_of_ble_eq_true rfl) d_Mo_ruleText_210 ⟨by decide, by decide⟩ (fun r N1 M_150 H locs hw hP hS => ?_)
                          obtain ⟨rfl, hw⟩ := hw
                          obtain ⟨gtv_151, c_152, rfl⟩ := hw
                          have h_153 := gm_pass (k := (h + 9)) (y := .inl (ca 0, 40, .inl (iN gtv_151))) ehv (gm_ne ehv m9v (fun h => by cases h))
                          have h_154 := gm_pass (k := (h + 9)) (y := .inl (ca 0, 40, .inl (iN gtv_151))) m5v (gm_ne m5v m9v (fun h => by simp at h))
                          have h_155 := gm_pass (k := (h + 9)) (y := .inl (ca 0, 40, .inl (iN gtv_151))) m6v (gm_ne m6v m9v (fun h => by simp at h))
                          have h_156 := gm_up_self Mv (h + 9) (.inl (ca 0, 40, .inl (iN gtv_151)))
                          have hP : gm_P D cls A N (gm_up (gm_up Mv (h + 9) (.inl (ca 0, 40, .inl (iN gtv_151)))) h (moO h (nI le) bp (nI nr) (nI wh) (nI (tq ++ [42]).length) (nI ne) (nI nf) (nI na) (nI an) (nI tm) (nI cn) (nI cs) (nI bd) (nI lt) (nI nt) fx fy)) H := hP
                          have h_157 := gm_pass (k := h) (y := moO h (nI le) bp (nI nr) (nI wh) (nI (tq ++ [42]).length) (nI ne) (nI nf) (nI na) (nI an) (nI tm) (nI cn) (nI cs) (nI bd) (nI lt) (nI nt) fx fy) h_154 (gm_ne h_154 h_153 (fun h => by cases h))
                          have h_158 := gm_pass (k := h) (y := moO h (nI le) bp (nI nr) (nI wh) (nI (tq ++ [42]).length) (nI ne) (nI nf) (nI na) (nI an) (nI tm) (nI cn) (nI cs) (nI bd) (nI lt) (nI nt) fx fy) h_155 (gm_ne h_155 h_153 (fun h => by cases h))
                          have h_159 := gm_pass (k := h) (y := moO h (nI le) bp (nI nr) (nI wh) (nI (tq ++ [42]).length) (nI ne) (nI nf) (nI na) (nI an) (nI tm) (nI cn) (nI cs) (nI bd) (nI lt) (nI nt) fx fy) h_156 (gm_ne h_156 h_153 (fun h => by cases h))
                          have h_160 := gm_up_self (gm_up Mv (h + 9) (.inl (ca 0, 40, .inl (iN gtv_151)))) h (moO h (nI le) bp (nI nr) (nI wh) (nI (tq ++ [42]).length) (nI ne) (nI nf) (nI na) (nI an) (nI tm) (nI cn) (nI cs) (nI bd) (nI lt) (nI nt) fx fy)
                          refine W.eq (g2 := F0 m 213 ls []) rfl ?_
                          refine lv_goto (tgt := 244) hx hb d_Mo_ruleText_213 (by decide) ?_
                          refine lv_iinc (v := nI (p0 + 1)) (lv' := [(4, .int (nI (p0 + 1))), (6, .int (nI (hw k p0))), (5, .int (nI (lw k p0))), (0, .ref h), (2, .int (nI i)), (3, .int (nI k))]) hx hb d_Mo_ruleText_244 hl (k := 5) rfl (nI_1 p0) (by decide) rfl (fun ls hl => ?_)
                          refine lv_goto (tgt := 151) hx hb d_Mo_ruleText_247 (by decide) ?_
                          exact ih_151 (p0 + 1) (tq ++ [42]) gtv_151 _ ls _ _ h_160 h_157 h_158 h_159 (by omega) (by rw [rtP_s, ← htq]; unfold rgx; (repeat (first | rw [if_pos (by omega)] | rw [if_neg (by omega)])); (try simp only [List.append_assoc, List.append_nil])) c_152 (fun z q0 q9 => (gm_up_ne _ _ q0).trans ((gm_up_ne _ _ q9).trans ((hfrv z q0 q9).trans (rfl)))) (by omega) hP hS (lv_sub hl [3, 4, 5, 0] rfl)
                    · skip
                      refine lv_aload_n hx hb d_Mo_ruleText_188 rfl (lv_at hl 2 rfl) ?_
                      refine lv_bipush (v := nI 44) hx hb d_Mo_ruleText_189 (by decide) ?_
                      refine gc_V (q := (R_Mo, F_Mo, 44)) (n := 1) [.int (nI 44)] [] hx hb hml hown hts hK hN hX hP hS (c_Mo_say ehv m9v htf (by have := hU.2 k 0; have := hU.2 k 0; first | omega | (simp only [List.length_append, List.length_singleton, List.length_nil]; omega))) rfl ehv k_911 k_913 ks_Mo_say k_10 k_914 (by decide +kernel) ⟨by decide, by decide⟩ rfl hl.1 rfl (Nat.le_of_ble_eq_true rfl) d_Mo_ruleText_191 ⟨by decide, by decide⟩ (fun r N1 M_161 H locs hw hP hS => ?_)
                      obtain ⟨rfl, hw⟩ := hw
                      obtain ⟨gtv_162, c_163, rfl⟩ := hw
                      have h_164 := gm_pass (k := (h + 9)) (y := .inl (ca 0, 40, .inl (iN gtv_162))) ehv (gm_ne ehv m9v (fun h => by cases h))
                      have h_165 := gm_pass (k := (h + 9)) (y := .inl (ca 0, 40, .inl (iN gtv_162))) m5v (gm_ne m5v m9v (fun h => by simp at h))
                      have h_166 := gm_pass (k := (h + 9)) (y := .inl (ca 0, 40, .inl (iN gtv_162))) m6v (gm_ne m6v m9v (fun h => by simp at h))
                      have h_167 := gm_up_self Mv (h + 9) (.inl (ca 0, 40, .inl (iN gtv_162)))
                      have hP : gm_P D cls A N (gm_up (gm_up Mv (h + 9) (.inl (ca 0, 40, .inl (iN gtv_162)))) h (moO h (nI le) bp (nI nr) (nI wh) (nI (tq ++ [44]).length) (nI ne) (nI nf) (nI na) (nI an) (nI tm) (nI cn) (nI cs) (nI bd) (nI lt) (nI nt) fx fy)) H := hP
                      have h_168 := gm_pass (k := h) (y := moO h (nI le) bp (nI nr) (nI wh) (nI (tq ++ [44]).length) (nI ne) (nI nf) (nI na) (nI an) (nI tm) (nI cn) (nI cs) (nI bd) (nI lt) (nI nt) fx fy) h_165 (gm_ne h_165 h_164 (fun h => by cases h))
                      have h_169 := gm_pass (k := h) (y := moO h (nI le) bp (nI nr) (nI wh) (nI (tq ++ [44]).length) (nI ne) (nI nf) (nI na) (nI an) (nI tm) (nI cn) (nI cs) (nI bd) (nI lt) (nI nt) fx fy) h_166 (gm_ne h_166 h_164 (fun h => by cases h))
                      have h_170 := gm_pass (k := h) (y := moO h (nI le) bp (nI nr) (nI wh) (nI (tq ++ [44]).length) (nI ne) (nI nf) (nI na) (nI an) (nI tm) (nI cn) (nI cs) (nI bd) (nI lt) (nI nt) fx fy) h_167 (gm_ne h_167 h_164 (fun h => by cases h))
                      have h_171 := gm_up_self (gm_up Mv (h + 9) (.inl (ca 0, 40, .inl (iN gtv_162)))) h (moO h (nI le) bp (nI nr) (nI wh) (nI (tq ++ [44]).length) (nI ne) (nI nf) (nI na) (nI an) (nI tm) (nI cn) (nI cs) (nI bd) (nI lt) (nI nt) fx fy)
                      refine W.eq (g2 := F0 m 194 ls []) rfl ?_
                      refine lv_iload hx hb d_Mo_ruleText_194 (lv_at hl 1 rfl) ?_
                      refine lz_ne (tgt := 216) hx hb d_Mo_ruleText_196 (by decide) (by omega) (fun c_172 => ?_) (fun c_172 => ?_)
                      · skip
                        refine lv_aload_n hx hb d_Mo_ruleText_216 rfl (lv_at hl 2 rfl) ?_
                        refine lv_iload hx hb d_Mo_ruleText_217 (lv_at hl 1 rfl) ?_
                        refine gc_V (q := (R_Mo, F_Mo, 44)) (n := 1) [.int (nI (lw k p0))] [] hx hb hml hown hts hK hN hX hP hS (c_Mo_sayNumber h_171 h_170 c_163 (by have := digs_len (lw k p0); have := digs_len (hw k p0); first | omega | (simp only [List.length_append, List.length_singleton, List.length_nil]; omega)) (by omega)) rfl h_171 k_915 k_917 ks_Mo_sayNumber k_10 k_918 (by decide +kernel) ⟨by decide, by decide⟩ rfl hl.1 rfl (Nat.le_of_ble_eq_true rfl) d_Mo_ruleText_219 ⟨by decide, by decide⟩ (fun r N1 M_173 H locs hw hP hS => ?_)
                        obtain ⟨rfl, hw⟩ := hw
                        obtain ⟨gtv_174, c_175, rfl⟩ := hw
                        have he_176 : gm_up (gm_up (gm_up Mv (h + 9) (.inl (ca 0, 40, .inl (iN gtv_162)))) h (moO h (nI le) bp (nI nr) (nI wh) (nI (tq ++ [44]).length) (nI ne) (nI nf) (nI na) (nI an) (nI tm) (nI cn) (nI cs) (nI bd) (nI lt) (nI nt) fx fy)) (h + 9) (.inl (ca 0, 40, .inl (iN gtv_174))) = gm_up (gm_up Mv (h + 9) (.inl (ca 0, 40, .inl (iN gtv_174)))) h (moO h (nI le) bp (nI nr) (nI wh) (nI (tq ++ [44]).length) (nI ne) (nI nf) (nI na) (nI an) (nI tm) (nI cn) (nI cs) (nI bd) (nI lt) (nI nt) fx fy) := (gm_swap (gm_ne h_171 h_170 (fun h => by cases h))).trans (congrArg (fun Z => gm_up Z h (moO h (nI le) bp (nI nr) (nI wh) (nI (tq ++ [44]).length) (nI ne) (nI nf) (nI na) (nI an) (nI tm) (nI cn) (nI cs) (nI bd) (nI lt) (nI nt) fx fy)) (gm_up_up _ _ _ _))
                        have hP := Eq.mp (congrArg (fun Z => gm_P D cls A N (gm_up Z h (moO h (nI le) bp (nI nr) (nI wh) (nI ((tq ++ [44]) ++ digs (lw k p0)).length) (nI ne) (nI nf) (nI na) (nI an) (nI tm) (nI cn) (nI cs) (nI bd) (nI lt) (nI nt) fx fy)) H) he_176) hP
                        have h_177 := (congrFun he_176 _).symm.trans (gm_pass (k := (h + 9)) (y := .inl (ca 0, 40, .inl (iN gtv_174))) h_168 (gm_ne h_168 h_170 (fun h => by simp at h)))
                        have h_178 := (congrFun he_176 _).symm.trans (gm_pass (k := (h + 9)) (y := .inl (ca 0, 40, .inl (iN gtv_174))) h_169 (gm_ne h_169 h_170 (fun h => by simp at h)))
                        have h_179 := (congrFun he_176 _).symm.trans (gm_pass (k := (h + 9)) (y := .inl (ca 0, 40, .inl (iN gtv_174))) h_171 (gm_ne h_171 h_170 (fun h => by cases h)))
                        have h_180 := (congrFun he_176 _).symm.trans (gm_up_self (gm_up (gm_up Mv (h + 9) (.inl (ca 0, 40, .inl (iN gtv_162)))) h (moO h (nI le) bp (nI nr) (nI wh) (nI (tq ++ [44]).length) (nI ne) (nI nf) (nI na) (nI an) (nI tm) (nI cn) (nI cs) (nI bd) (nI lt) (nI nt) fx fy)) (h + 9) (.inl (ca 0, 40, .inl (iN gtv_174))))
                        have he_181 : gm_up (gm_up (gm_up Mv (h + 9) (.inl (ca 0, 40, .inl (iN gtv_174)))) h (moO h (nI le) bp (nI nr) (nI wh) (nI (tq ++ [44]).length) (nI ne) (nI nf) (nI na) (nI an) (nI tm) (nI cn) (nI cs) (nI bd) (nI lt) (nI nt) fx fy)) h (moO h (nI le) bp (nI nr) (nI wh) (nI ((tq ++ [44]) ++ digs (lw k p0)).length) (nI ne) (nI nf) (nI na) (nI an) (nI tm) (nI cn) (nI cs) (nI bd) (nI lt) (nI nt) fx fy) = gm_up (gm_up Mv (h + 9) (.inl (ca 0, 40, .inl (iN gtv_174)))) h (moO h (nI le) bp (nI nr) (nI wh) (nI ((tq ++ [44]) ++ digs (lw k p0)).length) (nI ne) (nI nf) (nI na) (nI an) (nI tm) (nI cn) (nI cs) (nI bd) (nI lt) (nI nt) fx fy) := gm_up_up _ _ _ _
                        have hP := Eq.mp (congrArg (fun Z => gm_P D cls A N (Z) H) he_181) hP
                        have hP : gm_P D cls A N (gm_up (gm_up Mv (h + 9) (.inl (ca 0, 40, .inl (iN gtv_174)))) h (moO h (nI le) bp (nI nr) (nI wh) (nI ((tq ++ [44]) ++ digs (lw k p0)).length) (nI ne) (nI nf) (nI na) (nI an) (nI tm) (nI cn) (nI cs) (nI bd) (nI lt) (nI nt) fx fy)) H := hP
                        have h_182 := (congrFun he_181 _).symm.trans (gm_pass (k := h) (y := moO h (nI le) bp (nI nr) (nI wh) (nI ((tq ++ [44]) ++ digs (lw k p0)).length) (nI ne) (nI nf) (nI na) (nI an) (nI tm) (nI cn) (nI cs) (nI bd) (nI lt) (nI nt) fx fy) h_177 (gm_ne h_177 h_179 (fun h => by cases h)))
                        have h_183 := (congrFun he_181 _).symm.trans (gm_pass (k := h) (y := moO h (nI le) bp (nI nr) (nI wh) (nI ((tq ++ [44]) ++ digs (lw k p0)).length) (nI ne) (nI nf) (nI na) (nI an) (nI tm) (nI cn) (nI cs) (nI bd) (nI lt) (nI nt) fx fy) h_178 (gm_ne h_178 h_179 (fun h => by cases h)))
                        have h_184 := (congrFun he_181 _).symm.trans (gm_pass (k := h) (y := moO h (nI le) bp (nI nr) (nI wh) (nI ((tq ++ [44]) ++ digs (lw k p0)).length) (nI ne) (nI nf) (nI na) (nI an) (nI tm) (nI cn) (nI cs) (nI bd) (nI lt) (nI nt) fx fy) h_180 (gm_ne h_180 h_179 (fun h => by cases h)))
                        have h_185 := (congrFun he_181 _).symm.trans (gm_up_self (gm_up (gm_up Mv (h + 9) (.inl (ca 0, 40, .inl (iN gtv_174)))) h (moO h (nI le) bp (nI nr) (nI wh) (nI (tq ++ [44]).length) (nI ne) (nI nf) (nI na) (nI an) (nI tm) (nI cn) (nI cs) (nI bd) (nI lt) (nI nt) fx fy)) h (moO h (nI le) bp (nI nr) (nI wh) (nI ((tq ++ [44]) ++ digs (lw k p0)).length) (nI ne) (nI nf) (nI na) (nI an) (nI tm) (nI cn) (nI cs) (nI bd) (nI lt) (nI nt) fx fy))
                        refine W.eq (g2 := F0 m 222 ls []) rfl ?_
                        refine lv_iload hx hb d_Mo_ruleText_222 (lv_at hl 1 rfl) ?_
                        refine lv_iload hx hb d_Mo_ruleText_224 (lv_at hl 0 rfl) ?_
                        refine ln_ne (tgt := 232) hx hb d_Mo_ruleText_226 (by decide) (by omega) (by omega) (fun c_186 => ?_) (fun c_186 => ?_)
                        · skip
                          refine lv_aload_n hx hb d_Mo_ruleText_232 rfl (lv_at hl 2 rfl) ?_
                          refine lv_bipush (v := nI 45) hx hb d_Mo_ruleText_233 (by decide) ?_
                          refine gc_V (q := (R_Mo, F_Mo, 44)) (n := 1) [.int (nI 45)] [] hx hb hml hown hts hK hN hX hP hS (c_Mo_say h_185 h_184 c_175 (by have := hU.2 k 0; have := hU.2 k 0; first | omega | (simp only [List.length_append, List.length_singleton, List.length_nil]; omega))) rfl h_185 k_911 k_913 ks_Mo_say k_10 k_914 (by decide +kernel) ⟨by decide, by decide⟩ rfl hl.1 rfl (Nat.le_of_ble_eq_true rfl) d_Mo_ruleText_235 ⟨by decide, by decide⟩ (fun r N1 M_187 H locs hw hP hS => ?_)
                          obtain ⟨rfl, hw⟩ := hw
                          obtain ⟨gtv_188, c_189, rfl⟩ := hw
                          have he_190 : gm_up (gm_up (gm_up Mv (h + 9) (.inl (ca 0, 40, .inl (iN gtv_174)))) h (moO h (nI le) bp (nI nr) (nI wh) (nI ((tq ++ [44]) ++ digs (lw k p0)).length) (nI ne) (nI nf) (nI na) (nI an) (nI tm) (nI cn) (nI cs) (nI bd) (nI lt) (nI nt) fx fy)) (h + 9) (.inl (ca 0, 40, .inl (iN gtv_188))) = gm_up (gm_up Mv (h + 9) (.inl (ca 0, 40, .inl (iN gtv_188)))) h (moO h (nI le) bp (nI nr) (nI wh) (nI ((tq ++ [44]) ++ digs (lw k p0)).length) (nI ne) (nI nf) (nI na) (nI an) (nI tm) (nI cn) (nI cs) (nI bd) (nI lt) (nI nt) fx fy) := (gm_swap (gm_ne h_185 h_184 (fun h => by cases h))).trans (congrArg (fun Z => gm_up Z h (moO h (nI le) bp (nI nr) (nI wh) (nI ((tq ++ [44]) ++ digs (lw k p0)).length) (nI ne) (nI nf) (nI na) (nI an) (nI tm) (nI cn) (nI cs) (nI bd) (nI lt) (nI nt) fx fy)) (gm_up_up _ _ _ _))
                          have hP := Eq.mp (congrArg (fun Z => gm_P D cls A N (gm_up Z h (moO h (nI le) bp (nI nr) (nI wh) (nI (((tq ++ [44]) ++ digs (lw k p0)) ++ [45]).length) (nI ne) (nI nf) (nI na) (nI an) (nI tm) (nI cn) (nI cs) (nI bd) (nI lt) (nI nt) fx fy)) H) he_190) hP
                          have h_191 := (congrFun he_190 _).symm.trans (gm_pass (k := (h + 9)) (y := .inl (ca 0, 40, .inl (iN gtv_188))) h_182 (gm_ne h_182 h_184 (fun h => by simp at h)))
                          have h_192 := (congrFun he_190 _).symm.trans (gm_pass (k := (h + 9)) (y := .inl (ca 0, 40, .inl (iN gtv_188))) h_183 (gm_ne h_183 h_184 (fun h => by simp at h)))
                          have h_193 := (congrFun he_190 _).symm.trans (gm_pass (k := (h + 9)) (y := .inl (ca 0, 40, .inl (iN gtv_188))) h_185 (gm_ne h_185 h_184 (fun h => by cases h)))
                          have h_194 := (congrFun he_190 _).symm.trans (gm_up_self (gm_up (gm_up Mv (h + 9) (.inl (ca 0, 40, .inl (iN gtv_174)))) h (moO h (nI le) bp (nI nr) (nI wh) (nI ((tq ++ [44]) ++ digs (lw k p0)).length) (nI ne) (nI nf) (nI na) (nI an) (nI tm) (nI cn) (nI cs) (nI bd) (nI lt) (nI nt) fx fy)) (h + 9) (.inl (ca 0, 40, .inl (iN gtv_188))))
                          have he_195 : gm_up (gm_up (gm_up Mv (h + 9) (.inl (ca 0, 40, .inl (iN gtv_188)))) h (moO h (nI le) bp (nI nr) (nI wh) (nI ((tq ++ [44]) ++ digs (lw k p0)).length) (nI ne) (nI nf) (nI na) (nI an) (nI tm) (nI cn) (nI cs) (nI bd) (nI lt) (nI nt) fx fy)) h (moO h (nI le) bp (nI nr) (nI wh) (nI (((tq ++ [44]) ++ digs (lw k p0)) ++ [45]).length) (nI ne) (nI nf) (nI na) (nI an) (nI tm) (nI cn) (nI cs) (nI bd) (nI lt) (nI nt) fx fy) = gm_up (gm_up Mv (h + 9) (.inl (ca 0, 40, .inl (iN gtv_188)))) h (moO h (nI le) bp (nI nr) (nI wh) (nI (((tq ++ [44]) ++ digs (lw k p0)) ++ [45]).length) (nI ne) (nI nf) (nI na) (nI an) (nI tm) (nI cn) (nI cs) (nI bd) (nI lt) (nI nt) fx fy) := gm_up_up _ _ _ _
                          have hP := Eq.mp (congrArg (fun Z => gm_P D cls A N (Z) H) he_195) hP
                          have hP : gm_P D cls A N (gm_up (gm_up Mv (h + 9) (.inl (ca 0, 40, .inl (iN gtv_188)))) h (moO h (nI le) bp (nI nr) (nI wh) (nI (((tq ++ [44]) ++ digs (lw k p0)) ++ [45]).length) (nI ne) (nI nf) (nI na) (nI an) (nI tm) (nI cn) (nI cs) (nI bd) (nI lt) (nI nt) fx fy)) H := hP
                          have h_196 := (congrFun he_195 _).symm.trans (gm_pass (k := h) (y := moO h (nI le) bp (nI nr) (nI wh) (nI (((tq ++ [44]) ++ digs (lw k p0)) ++ [45]).length) (nI ne) (nI nf) (nI na) (nI an) (nI tm) (nI cn) (nI cs) (nI bd) (nI lt) (nI nt) fx fy) h_191 (gm_ne h_191 h_193 (fun h => by cases h)))
                          have h_197 := (congrFun he_195 _).symm.trans (gm_pass (k := h) (y := moO h (nI le) bp (nI nr) (nI wh) (nI (((tq ++ [44]) ++ digs (lw k p0)) ++ [45]).length) (nI ne) (nI nf) (nI na) (nI an) (nI tm) (nI cn) (nI cs) (nI bd) (nI lt) (nI nt) fx fy) h_192 (gm_ne h_192 h_193 (fun h => by cases h)))
                          have h_198 := (congrFun he_195 _).symm.trans (gm_pass (k := h) (y := moO h (nI le) bp (nI nr) (nI wh) (nI (((tq ++ [44]) ++ digs (lw k p0)) ++ [45]).length) (nI ne) (nI nf) (nI na) (nI an) (nI tm) (nI cn) (nI cs) (nI bd) (nI lt) (nI nt) fx fy) h_194 (gm_ne h_194 h_193 (fun h => by cases h)))
                          have h_199 := (congrFun he_195 _).symm.trans (gm_up_self (gm_up (gm_up Mv (h + 9) (.inl (ca 0, 40, .inl (iN gtv_188)))) h (moO h (nI le) bp (nI nr) (nI wh) (nI ((tq ++ [44]) ++ digs (lw k p0)).length) (nI ne) (nI nf) (nI na) (nI an) (nI tm) (nI cn) (nI cs) (nI bd) (nI lt) (nI nt) fx fy)) h (moO h (nI le) bp (nI nr) (nI wh) (nI (((tq ++ [44]) ++ digs (lw k p0)) ++ [45]).length) (nI ne) (nI nf) (nI na) (nI an) (nI tm) (nI cn) (nI cs) (nI bd) (nI lt) (nI nt) fx fy))
                          refine W.eq (g2 := F0 m 238 ls []) rfl ?_
                          refine lv_aload_n hx hb d_Mo_ruleText_238 rfl (lv_at hl 2 rfl) ?_
                          refine lv_iload hx hb d_Mo_ruleText_239 (lv_at hl 0 rfl) ?_
                          refine gc_V (q := (R_Mo, F_Mo, 44)) (n := 1) [.int (nI (hw k p0))] [] hx hb hml hown hts hK hN hX hP hS (c_Mo_sayNumber h_199 h_198 c_189 (by have := digs_len (lw k p0); have := digs_len (hw k p0); first | omega | (simp only [List.length_append, List.length_singleton, List.length_nil]; omega)) (by omega)) rfl h_199 k_915 k_917 ks_Mo_sayNumber k_10 k_918 (by decide +kernel) ⟨by decide, by decide⟩ rfl hl.1 rfl (Nat.le_of_ble_eq_true rfl) d_Mo_ruleText_241 ⟨by decide, by decide⟩ (fun r N1 M_200 H locs hw hP hS => ?_)
                          obtain ⟨rfl, hw⟩ := hw
                          obtain ⟨gtv_201, c_202, rfl⟩ := hw
                          have he_203 : gm_up (gm_up (gm_up Mv (h + 9) (.inl (ca 0, 40, .inl (iN gtv_188)))) h (moO h (nI le) bp (nI nr) (nI wh) (nI (((tq ++ [44]) ++ digs (lw k p0)) ++ [45]).length) (nI ne) (nI nf) (nI na) (nI an) (nI tm) (nI cn) (nI cs) (nI bd) (nI lt) (nI nt) fx fy)) (h + 9) (.inl (ca 0, 40, .inl (iN gtv_201))) = gm_up (gm_up Mv (h + 9) (.inl (ca 0, 40, .inl (iN gtv_201)))) h (moO h (nI le) bp (nI nr) (nI wh) (nI (((tq ++ [44]) ++ digs (lw k p0)) ++ [45]).length) (nI ne) (nI nf) (nI na) (nI an) (nI tm) (nI cn) (nI cs) (nI bd) (nI lt) (nI nt) fx fy) := (gm_swap (gm_ne h_199 h_198 (fun h => by cases h))).trans (congrArg (fun Z => gm_up Z h (moO h (nI le) bp (nI nr) (nI wh) (nI (((tq ++ [44]) ++ digs (lw k p0)) ++ [45]).length) (nI ne) (nI nf) (nI na) (nI an) (nI tm) (nI cn) (nI cs) (nI bd) (nI lt) (nI nt) fx fy)) (gm_up_up _ _ _ _))
                          have hP := Eq.mp (congrArg (fun Z => gm_P D cls A N (gm_up Z h (moO h (nI le) bp (nI nr) (nI wh) (nI ((((tq ++ [44]) ++ digs (lw k p0)) ++ [45]) ++ digs (hw k p0)).length) (nI ne) (nI nf) (nI na) (nI an) (nI tm) (nI cn) (nI cs) (nI bd) (nI lt) (nI nt) fx fy)) H) he_203) hP
                          have h_204 := (congrFun he_203 _).symm.trans (gm_pass (k := (h + 9)) (y := .inl (ca 0, 40, .inl (iN gtv_201))) h_196 (gm_ne h_196 h_198 (fun h => by simp at h)))
                          have h_205 := (congrFun he_203 _).symm.trans (gm_pass (k := (h + 9)) (y := .inl (ca 0, 40, .inl (iN gtv_201))) h_197 (gm_ne h_197 h_198 (fun h => by simp at h)))
                          have h_206 := (congrFun he_203 _).symm.trans (gm_pass (k := (h + 9)) (y := .inl (ca 0, 40, .inl (iN gtv_201))) h_199 (gm_ne h_199 h_198 (fun h => by cases h)))
                          have h_207 := (congrFun he_203 _).symm.trans (gm_up_self (gm_up (gm_up Mv (h + 9) (.inl (ca 0, 40, .inl (iN gtv_188)))) h (moO h (nI le) bp (nI nr) (nI wh) (nI (((tq ++ [44]) ++ digs (lw k p0)) ++ [45]).length) (nI ne) (nI nf) (nI na) (nI an) (nI tm) (nI cn) (nI cs) (nI bd) (nI lt) (nI nt) fx fy)) (h + 9) (.inl (ca 0, 40, .inl (iN gtv_201))))
                          have he_208 : gm_up (gm_up (gm_up Mv (h + 9) (.inl (ca 0, 40, .inl (iN gtv_201)))) h (moO h (nI le) bp (nI nr) (nI wh) (nI (((tq ++ [44]) ++ digs (lw k p0)) ++ [45]).length) (nI ne) (nI nf) (nI na) (nI an) (nI tm) (nI cn) (nI cs) (nI bd) (nI lt) (nI nt) fx fy)) h (moO h (nI le) bp (nI nr) (nI wh) (nI ((((tq ++ [44]) ++ digs (lw k p0)) ++ [45]) ++ digs (hw k p0)).length) (nI ne) (nI nf) (nI na) (nI an) (nI tm) (nI cn) (nI cs) (nI bd) (nI lt) (nI nt) fx fy) = gm_up (gm_up Mv (h + 9) (.inl (ca 0, 40, .inl (iN gtv_201)))) h (moO h (nI le) bp (nI nr) (nI wh) (nI ((((tq ++ [44]) ++ digs (lw k p0)) ++ [45]) ++ digs (hw k p0)).length) (nI ne) (nI nf) (nI na) (nI an) (nI tm) (nI cn) (nI cs) (nI bd) (nI lt) (nI nt) fx fy) := gm_up_up _ _ _ _
                          have hP := Eq.mp (congrArg (fun Z => gm_P D cls A N (Z) H) he_208) hP
                          have hP : gm_P D cls A N (gm_up (gm_up Mv (h + 9) (.inl (ca 0, 40, .inl (iN gtv_201)))) h (moO h (nI le) bp (nI nr) (nI wh) (nI ((((tq ++ [44]) ++ digs (lw k p0)) ++ [45]) ++ digs (hw k p0)).length) (nI ne) (nI nf) (nI na) (nI an) (nI tm) (nI cn) (nI cs) (nI bd) (nI lt) (nI nt) fx fy)) H := hP
                          have h_209 := (congrFun he_208 _).symm.trans (gm_pass (k := h) (y := moO h (nI le) bp (nI nr) (nI wh) (nI ((((tq ++ [44]) ++ digs (lw k p0)) ++ [45]) ++ digs (hw k p0)).length) (nI ne) (nI nf) (nI na) (nI an) (nI tm) (nI cn) (nI cs) (nI bd) (nI lt) (nI nt) fx fy) h_204 (gm_ne h_204 h_206 (fun h => by cases h)))
                          have h_210 := (congrFun he_208 _).symm.trans (gm_pass (k := h) (y := moO h (nI le) bp (nI nr) (nI wh) (nI ((((tq ++ [44]) ++ digs (lw k p0)) ++ [45]) ++ digs (hw k p0)).length) (nI ne) (nI nf) (nI na) (nI an) (nI tm) (nI cn) (nI cs) (nI bd) (nI lt) (nI nt) fx fy) h_205 (gm_ne h_205 h_206 (fun h => by cases h)))
                          have h_211 := (congrFun he_208 _).symm.trans (gm_pass (k := h) (y := moO h (nI le) bp (nI nr) (nI wh) (nI ((((tq ++ [44]) ++ digs (lw k p0)) ++ [45]) ++ digs (hw k p0)).length) (nI ne) (nI nf) (nI na) (nI an) (nI tm) (nI cn) (nI cs) (nI bd) (nI lt) (nI nt) fx fy) h_207 (gm_ne h_207 h_206 (fun h => by cases h)))
                          have h_212 := (congrFun he_208 _).symm.trans (gm_up_self (gm_up (gm_up Mv (h + 9) (.inl (ca 0, 40, .inl (iN gtv_201)))) h (moO h (nI le) bp (nI nr) (nI wh) (nI (((tq ++ [44]) ++ digs (lw k p0)) ++ [45]).length) (nI ne) (nI nf) (nI na) (nI an) (nI tm) (nI cn) (nI cs) (nI bd) (nI lt) (nI nt) fx fy)) h (moO h (nI le) bp (nI nr) (nI wh) (nI ((((tq ++ [44]) ++ digs (lw k p0)) ++ [45]) ++ digs (hw k p0)).length) (nI ne) (nI nf) (nI na) (nI an) (nI tm) (nI cn) (nI cs) (nI bd) (nI lt) (nI nt) fx fy))
                          refine W.eq (g2 := F0 m 244 ls []) rfl ?_
                          refine lv_iinc (v := nI (p0 + 1)) (lv' := [(4, .int (nI (p0 + 1))), (6, .int (nI (hw k p0))), (5, .int (nI (lw k p0))), (0, .ref h), (2, .int (nI i)), (3, .int (nI k))]) hx hb d_Mo_ruleText_244 hl (k := 5) rfl (nI_1 p0) (by decide) rfl (fun ls hl => ?_)
                          refine lv_goto (tgt := 151) hx hb d_Mo_ruleText_247 (by decide) ?_
                          exact ih_151 (p0 + 1) ((((tq ++ [44]) ++ digs (lw k p0)) ++ [45]) ++ digs (hw k p0)) gtv_201 _ ls _ _ h_212 h_209 h_210 h_211 (by omega) (by rw [rtP_s, ← htq]; unfold rgx; (repeat (first | rw [if_pos (by omega)] | rw [if_neg (by omega)])); (try simp only [List.append_assoc, List.append_nil])) c_202 (fun z q0 q9 => (gm_up_ne _ _ q0).trans ((gm_up_ne _ _ q9).trans ((hfrv z q0 q9).trans (rfl)))) (by omega) hP hS (lv_sub hl [3, 4, 5, 0] rfl)
                        · skip
                          refine lv_goto (tgt := 244) hx hb d_Mo_ruleText_229 (by decide) ?_
                          refine lv_iinc (v := nI (p0 + 1)) (lv' := [(4, .int (nI (p0 + 1))), (6, .int (nI (hw k p0))), (5, .int (nI (lw k p0))), (0, .ref h), (2, .int (nI i)), (3, .int (nI k))]) hx hb d_Mo_ruleText_244 hl (k := 5) rfl (nI_1 p0) (by decide) rfl (fun ls hl => ?_)
                          refine lv_goto (tgt := 151) hx hb d_Mo_ruleText_247 (by decide) ?_
                          exact ih_151 (p0 + 1) ((tq ++ [44]) ++ digs (lw k p0)) gtv_174 _ ls _ _ h_185 h_182 h_183 h_184 (by omega) (by rw [rtP_s, ← htq]; unfold rgx; (repeat (first | rw [if_pos (by omega)] | rw [if_neg (by omega)])); (try simp only [List.append_assoc, List.append_nil])) c_175 (fun z q0 q9 => (gm_up_ne _ _ q0).trans ((gm_up_ne _ _ q9).trans ((hfrv z q0 q9).trans (rfl)))) (by omega) hP hS (lv_sub hl [3, 4, 5, 0] rfl)
                      · skip
                        refine lv_iload hx hb d_Mo_ruleText_199 (lv_at hl 0 rfl) ?_
                        refine lv_sipush (v := nI 255) hx hb d_Mo_ruleText_201 (by decide) ?_
                        refine ln_ne (tgt := 216) hx hb d_Mo_ruleText_204 (by decide) (by omega) (by omega) (fun c_213 => ?_) (fun c_213 => ?_)
                        · skip
                          refine lv_aload_n hx hb d_Mo_ruleText_216 rfl (lv_at hl 2 rfl) ?_
                          refine lv_iload hx hb d_Mo_ruleText_217 (lv_at hl 1 rfl) ?_
                          refine gc_V (q := (R_Mo, F_Mo, 44)) (n := 1) [.int (nI (lw k p0))] [] hx hb hml hown hts hK hN hX hP hS (c_Mo_sayNumber h_171 h_170 c_163 (by have := digs_len (lw k p0); have := digs_len (hw k p0); first | omega | (simp only [List.length_append, List.length_singleton, List.length_nil]; omega)) (by omega)) rfl h_171 k_915 k_917 ks_Mo_sayNumber k_10 k_918 (by decide +kernel) ⟨by decide, by decide⟩ rfl hl.1 rfl (Nat.le_of_ble_eq_true rfl) d_Mo_ruleText_219 ⟨by decide, by decide⟩ (fun r N1 M_214 H locs hw hP hS => ?_)
                          obtain ⟨rfl, hw⟩ := hw
                          obtain ⟨gtv_215, c_216, rfl⟩ := hw
                          have he_217 : gm_up (gm_up (gm_up Mv (h + 9) (.inl (ca 0, 40, .inl (iN gtv_162)))) h (moO h (nI le) bp (nI nr) (nI wh) (nI (tq ++ [44]).length) (nI ne) (nI nf) (nI na) (nI an) (nI tm) (nI cn) (nI cs) (nI bd) (nI lt) (nI nt) fx fy)) (h + 9) (.inl (ca 0, 40, .inl (iN gtv_215))) = gm_up (gm_up Mv (h + 9) (.inl (ca 0, 40, .inl (iN gtv_215)))) h (moO h (nI le) bp (nI nr) (nI wh) (nI (tq ++ [44]).length) (nI ne) (nI nf) (nI na) (nI an) (nI tm) (nI cn) (nI cs) (nI bd) (nI lt) (nI nt) fx fy) := (gm_swap (gm_ne h_171 h_170 (fun h => by cases h))).trans (congrArg (fun Z => gm_up Z h (moO h (nI le) bp (nI nr) (nI wh) (nI (tq ++ [44]).length) (nI ne) (nI nf) (nI na) (nI an) (nI tm) (nI cn) (nI cs) (nI bd) (nI lt) (nI nt) fx fy)) (gm_up_up _ _ _ _))
                          have hP := Eq.mp (congrArg (fun Z => gm_P D cls A N (gm_up Z h (moO h (nI le) bp (nI nr) (nI wh) (nI ((tq ++ [44]) ++ digs (lw k p0)).length) (nI ne) (nI nf) (nI na) (nI an) (nI tm) (nI cn) (nI cs) (nI bd) (nI lt) (nI nt) fx fy)) H) he_217) hP
                          have h_218 := (congrFun he_217 _).symm.trans (gm_pass (k := (h + 9)) (y := .inl (ca 0, 40, .inl (iN gtv_215))) h_168 (gm_ne h_168 h_170 (fun h => by simp at h)))
                          have h_219 := (congrFun he_217 _).symm.trans (gm_pass (k := (h + 9)) (y := .inl (ca 0, 40, .inl (iN gtv_215))) h_169 (gm_ne h_169 h_170 (fun h => by simp at h)))
                          have h_220 := (congrFun he_217 _).symm.trans (gm_pass (k := (h + 9)) (y := .inl (ca 0, 40, .inl (iN gtv_215))) h_171 (gm_ne h_171 h_170 (fun h => by cases h)))
                          have h_221 := (congrFun he_217 _).symm.trans (gm_up_self (gm_up (gm_up Mv (h + 9) (.inl (ca 0, 40, .inl (iN gtv_162)))) h (moO h (nI le) bp (nI nr) (nI wh) (nI (tq ++ [44]).length) (nI ne) (nI nf) (nI na) (nI an) (nI tm) (nI cn) (nI cs) (nI bd) (nI lt) (nI nt) fx fy)) (h + 9) (.inl (ca 0, 40, .inl (iN gtv_215))))
                          have he_222 : gm_up (gm_up (gm_up Mv (h + 9) (.inl (ca 0, 40, .inl (iN gtv_215)))) h (moO h (nI le) bp (nI nr) (nI wh) (nI (tq ++ [44]).length) (nI ne) (nI nf) (nI na) (nI an) (nI tm) (nI cn) (nI cs) (nI bd) (nI lt) (nI nt) fx fy)) h (moO h (nI le) bp (nI nr) (nI wh) (nI ((tq ++ [44]) ++ digs (lw k p0)).length) (nI ne) (nI nf) (nI na) (nI an) (nI tm) (nI cn) (nI cs) (nI bd) (nI lt) (nI nt) fx fy) = gm_up (gm_up Mv (h + 9) (.inl (ca 0, 40, .inl (iN gtv_215)))) h (moO h (nI le) bp (nI nr) (nI wh) (nI ((tq ++ [44]) ++ digs (lw k p0)).length) (nI ne) (nI nf) (nI na) (nI an) (nI tm) (nI cn) (nI cs) (nI bd) (nI lt) (nI nt) fx fy) := gm_up_up _ _ _ _
                          have hP := Eq.mp (congrArg (fun Z => gm_P D cls A N (Z) H) he_222) hP
                          have hP : gm_P D cls A N (gm_up (gm_up Mv (h + 9) (.inl (ca 0, 40, .inl (iN gtv_215)))) h (moO h (nI le) bp (nI nr) (nI wh) (nI ((tq ++ [44]) ++ digs (lw k p0)).length) (nI ne) (nI nf) (nI na) (nI an) (nI tm) (nI cn) (nI cs) (nI bd) (nI lt) (nI nt) fx fy)) H := hP
                          have h_223 := (congrFun he_222 _).symm.trans (gm_pass (k := h) (y := moO h (nI le) bp (nI nr) (nI wh) (nI ((tq ++ [44]) ++ digs (lw k p0)).length) (nI ne) (nI nf) (nI na) (nI an) (nI tm) (nI cn) (nI cs) (nI bd) (nI lt) (nI nt) fx fy) h_218 (gm_ne h_218 h_220 (fun h => by cases h)))
                          have h_224 := (congrFun he_222 _).symm.trans (gm_pass (k := h) (y := moO h (nI le) bp (nI nr) (nI wh) (nI ((tq ++ [44]) ++ digs (lw k p0)).length) (nI ne) (nI nf) (nI na) (nI an) (nI tm) (nI cn) (nI cs) (nI bd) (nI lt) (nI nt) fx fy) h_219 (gm_ne h_219 h_220 (fun h => by cases h)))
                          have h_225 := (congrFun he_222 _).symm.trans (gm_pass (k := h) (y := moO h (nI le) bp (nI nr) (nI wh) (nI ((tq ++ [44]) ++ digs (lw k p0)).length) (nI ne) (nI nf) (nI na) (nI an) (nI tm) (nI cn) (nI cs) (nI bd) (nI lt) (nI nt) fx fy) h_221 (gm_ne h_221 h_220 (fun h => by cases h)))
                          have h_226 := (congrFun he_222 _).symm.trans (gm_up_self (gm_up (gm_up Mv (h + 9) (.inl (ca 0, 40, .inl (iN gtv_215)))) h (moO h (nI le) bp (nI nr) (nI wh) (nI (tq ++ [44]).length) (nI ne) (nI nf) (nI na) (nI an) (nI tm) (nI cn) (nI cs) (nI bd) (nI lt) (nI nt) fx fy)) h (moO h (nI le) bp (nI nr) (nI wh) (nI ((tq ++ [44]) ++ digs (lw k p0)).length) (nI ne) (nI nf) (nI na) (nI an) (nI tm) (nI cn) (nI cs) (nI bd) (nI lt) (nI nt) fx fy))
                          refine W.eq (g2 := F0 m 222 ls []) rfl ?_
                          refine lv_iload hx hb d_Mo_ruleText_222 (lv_at hl 1 rfl) ?_
                          refine lv_iload hx hb d_Mo_ruleText_224 (lv_at hl 0 rfl) ?_
                          refine ln_ne (tgt := 232) hx hb d_Mo_ruleText_226 (by decide) (by omega) (by omega) (fun c_227 => ?_) (fun c_227 => ?_)
                          · skip
                            refine lv_aload_n hx hb d_Mo_ruleText_232 rfl (lv_at hl 2 rfl) ?_
                            refine lv_bipush (v := nI 45) hx hb d_Mo_ruleText_233 (by decide) ?_
                            refine gc_V (q := (R_Mo, F_Mo, 44)) (n := 1) [.int (nI 45)] [] hx hb hml hown hts hK hN hX hP hS (c_Mo_say h_226 h_225 c_216 (by have := hU.2 k 0; have := hU.2 k 0; first | omega | (simp only [List.length_append, List.length_singleton, List.length_nil]; omega))) rfl h_226 k_911 k_913 ks_Mo_say k_10 k_914 (by decide +kernel) ⟨by decide, by decide⟩ rfl hl.1 rfl (Nat.le_of_ble_eq_true rfl) d_Mo_ruleText_235 ⟨by decide, by decide⟩ (fun r N1 M_228 H locs hw hP hS => ?_)
                            obtain ⟨rfl, hw⟩ := hw
                            obtain ⟨gtv_229, c_230, rfl⟩ := hw
                            have he_231 : gm_up (gm_up (gm_up Mv (h + 9) (.inl (ca 0, 40, .inl (iN gtv_215)))) h (moO h (nI le) bp (nI nr) (nI wh) (nI ((tq ++ [44]) ++ digs (lw k p0)).length) (nI ne) (nI nf) (nI na) (nI an) (nI tm) (nI cn) (nI cs) (nI bd) (nI lt) (nI nt) fx fy)) (h + 9) (.inl (ca 0, 40, .inl (iN gtv_229))) = gm_up (gm_up Mv (h + 9) (.inl (ca 0, 40, .inl (iN gtv_229)))) h (moO h (nI le) bp (nI nr) (nI wh) (nI ((tq ++ [44]) ++ digs (lw k p0)).length) (nI ne) (nI nf) (nI na) (nI an) (nI tm) (nI cn) (nI cs) (nI bd) (nI lt) (nI nt) fx fy) := (gm_swap (gm_ne h_226 h_225 (fun h => by cases h))).trans (congrArg (fun Z => gm_up Z h (moO h (nI le) bp (nI nr) (nI wh) (nI ((tq ++ [44]) ++ digs (lw k p0)).length) (nI ne) (nI nf) (nI na) (nI an) (nI tm) (nI cn) (nI cs) (nI bd) (nI lt) (nI nt) fx fy)) (gm_up_up _ _ _ _))
                            have hP := Eq.mp (congrArg (fun Z => gm_P D cls A N (gm_up Z h (moO h (nI le) bp (nI nr) (nI wh) (nI (((tq ++ [44]) ++ digs (lw k p0)) ++ [45]).length) (nI ne) (nI nf) (nI na) (nI an) (nI tm) (nI cn) (nI cs) (nI bd) (nI lt) (nI nt) fx fy)) H) he_231) hP
                            have h_232 := (congrFun he_231 _).symm.trans (gm_pass (k := (h + 9)) (y := .inl (ca 0, 40, .inl (iN gtv_229))) h_223 (gm_ne h_223 h_225 (fun h => by simp at h)))
                            have h_233 := (congrFun he_231 _).symm.trans (gm_pass (k := (h + 9)) (y := .inl (ca 0, 40, .inl (iN gtv_229))) h_224 (gm_ne h_224 h_225 (fun h => by simp at h)))
                            have h_234 := (congrFun he_231 _).symm.trans (gm_pass (k := (h + 9)) (y := .inl (ca 0, 40, .inl (iN gtv_229))) h_226 (gm_ne h_226 h_225 (fun h => by cases h)))
                            have h_235 := (congrFun he_231 _).symm.trans (gm_up_self (gm_up (gm_up Mv (h + 9) (.inl (ca 0, 40, .inl (iN gtv_215)))) h (moO h (nI le) bp (nI nr) (nI wh) (nI ((tq ++ [44]) ++ digs (lw k p0)).length) (nI ne) (nI nf) (nI na) (nI an) (nI tm) (nI cn) (nI cs) (nI bd) (nI lt) (nI nt) fx fy)) (h + 9) (.inl (ca 0, 40, .inl (iN gtv_229))))
                            have he_236 : gm_up (gm_up (gm_up Mv (h + 9) (.inl (ca 0, 40, .inl (iN gtv_229)))) h (moO h (nI le) bp (nI nr) (nI wh) (nI ((tq ++ [44]) ++ digs (lw k p0)).length) (nI ne) (nI nf) (nI na) (nI an) (nI tm) (nI cn) (nI cs) (nI bd) (nI lt) (nI nt) fx fy)) h (moO h (nI le) bp (nI nr) (nI wh) (nI (((tq ++ [44]) ++ digs (lw k p0)) ++ [45]).length) (nI ne) (nI nf) (nI na) (nI an) (nI tm) (nI cn) (nI cs) (nI bd) (nI lt) (nI nt) fx fy) = gm_up (gm_up Mv (h + 9) (.inl (ca 0, 40, .inl (iN gtv_229)))) h (moO h (nI le) bp (nI nr) (nI wh) (nI (((tq ++ [44]) ++ digs (lw k p0)) ++ [45]).length) (nI ne) (nI nf) (nI na) (nI an) (nI tm) (nI cn) (nI cs) (nI bd) (nI lt) (nI nt) fx fy) := gm_up_up _ _ _ _
                            have hP := Eq.mp (congrArg (fun Z => gm_P D cls A N (Z) H) he_236) hP
                            have hP : gm_P D cls A N (gm_up (gm_up Mv (h + 9) (.inl (ca 0, 40, .inl (iN gtv_229)))) h (moO h (nI le) bp (nI nr) (nI wh) (nI (((tq ++ [44]) ++ digs (lw k p0)) ++ [45]).length) (nI ne) (nI nf) (nI na) (nI an) (nI tm) (nI cn) (nI cs) (nI bd) (nI lt) (nI nt) fx fy)) H := hP
                            have h_237 := (congrFun he_236 _).symm.trans (gm_pass (k := h) (y := moO h (nI le) bp (nI nr) (nI wh) (nI (((tq ++ [44]) ++ digs (lw k p0)) ++ [45]).length) (nI ne) (nI nf) (nI na) (nI an) (nI tm) (nI cn) (nI cs) (nI bd) (nI lt) (nI nt) fx fy) h_232 (gm_ne h_232 h_234 (fun h => by cases h)))
                            have h_238 := (congrFun he_236 _).symm.trans (gm_pass (k := h) (y := moO h (nI le) bp (nI nr) (nI wh) (nI (((tq ++ [44]) ++ digs (lw k p0)) ++ [45]).length) (nI ne) (nI nf) (nI na) (nI an) (nI tm) (nI cn) (nI cs) (nI bd) (nI lt) (nI nt) fx fy) h_233 (gm_ne h_233 h_234 (fun h => by cases h)))
                            have h_239 := (congrFun he_236 _).symm.trans (gm_pass (k := h) (y := moO h (nI le) bp (nI nr) (nI wh) (nI (((tq ++ [44]) ++ digs (lw k p0)) ++ [45]).length) (nI ne) (nI nf) (nI na) (nI an) (nI tm) (nI cn) (nI cs) (nI bd) (nI lt) (nI nt) fx fy) h_235 (gm_ne h_235 h_234 (fun h => by cases h)))
                            have h_240 := (congrFun he_236 _).symm.trans (gm_up_self (gm_up (gm_up Mv (h + 9) (.inl (ca 0, 40, .inl (iN gtv_229)))) h (moO h (nI le) bp (nI nr) (nI wh) (nI ((tq ++ [44]) ++ digs (lw k p0)).length) (nI ne) (nI nf) (nI na) (nI an) (nI tm) (nI cn) (nI cs) (nI bd) (nI lt) (nI nt) fx fy)) h (moO h (nI le) bp (nI nr) (nI wh) (nI (((tq ++ [44]) ++ digs (lw k p0)) ++ [45]).length) (nI ne) (nI nf) (nI na) (nI an) (nI tm) (nI cn) (nI cs) (nI bd) (nI lt) (nI nt) fx fy))
                            refine W.eq (g2 := F0 m 238 ls []) rfl ?_
                            refine lv_aload_n hx hb d_Mo_ruleText_238 rfl (lv_at hl 2 rfl) ?_
                            refine lv_iload hx hb d_Mo_ruleText_239 (lv_at hl 0 rfl) ?_
                            refine gc_V (q := (R_Mo, F_Mo, 44)) (n := 1) [.int (nI (hw k p0))] [] hx hb hml hown hts hK hN hX hP hS (c_Mo_sayNumber h_240 h_239 c_230 (by have := digs_len (lw k p0); have := digs_len (hw k p0); first | omega | (simp only [List.length_append, List.length_singleton, List.length_nil]; omega)) (by omega)) rfl h_240 k_915 k_917 ks_Mo_sayNumber k_10 k_918 (by decide +kernel) ⟨by decide, by decide⟩ rfl hl.1 rfl (Nat.le_of_ble_eq_true rfl) d_Mo_ruleText_241 ⟨by decide, by decide⟩ (fun r N1 M_241 H locs hw hP hS => ?_)
                            obtain ⟨rfl, hw⟩ := hw
                            obtain ⟨gtv_242, c_243, rfl⟩ := hw
                            have he_244 : gm_up (gm_up (gm_up Mv (h + 9) (.inl (ca 0, 40, .inl (iN gtv_229)))) h (moO h (nI le) bp (nI nr) (nI wh) (nI (((tq ++ [44]) ++ digs (lw k p0)) ++ [45]).length) (nI ne) (nI nf) (nI na) (nI an) (nI tm) (nI cn) (nI cs) (nI bd) (nI lt) (nI nt) fx fy)) (h + 9) (.inl (ca 0, 40, .inl (iN gtv_242))) = gm_up (gm_up Mv (h + 9) (.inl (ca 0, 40, .inl (iN gtv_242)))) h (moO h (nI le) bp (nI nr) (nI wh) (nI (((tq ++ [44]) ++ digs (lw k p0)) ++ [45]).length) (nI ne) (nI nf) (nI na) (nI an) (nI tm) (nI cn) (nI cs) (nI bd) (nI lt) (nI nt) fx fy) := (gm_swap (gm_ne h_240 h_239 (fun h => by cases h))).trans (congrArg (fun Z => gm_up Z h (moO h (nI le) bp (nI nr) (nI wh) (nI (((tq ++ [44]) ++ digs (lw k p0)) ++ [45]).length) (nI ne) (nI nf) (nI na) (nI an) (nI tm) (nI cn) (nI cs) (nI bd) (nI lt) (nI nt) fx fy)) (gm_up_up _ _ _ _))
                            have hP := Eq.mp (congrArg (fun Z => gm_P D cls A N (gm_up Z h (moO h (nI le) bp (nI nr) (nI wh) (nI ((((tq ++ [44]) ++ digs (lw k p0)) ++ [45]) ++ digs (hw k p0)).length) (nI ne) (nI nf) (nI na) (nI an) (nI tm) (nI cn) (nI cs) (nI bd) (nI lt) (nI nt) fx fy)) H) he_244) hP
                            have h_245 := (congrFun he_244 _).symm.trans (gm_pass (k := (h + 9)) (y := .inl (ca 0, 40, .inl (iN gtv_242))) h_237 (gm_ne h_237 h_239 (fun h => by simp at h)))
                            have h_246 := (congrFun he_244 _).symm.trans (gm_pass (k := (h + 9)) (y := .inl (ca 0, 40, .inl (iN gtv_242))) h_238 (gm_ne h_238 h_239 (fun h => by simp at h)))
                            have h_247 := (congrFun he_244 _).symm.trans (gm_pass (k := (h + 9)) (y := .inl (ca 0, 40, .inl (iN gtv_242))) h_240 (gm_ne h_240 h_239 (fun h => by cases h)))
                            have h_248 := (congrFun he_244 _).symm.trans (gm_up_self (gm_up (gm_up Mv (h + 9) (.inl (ca 0, 40, .inl (iN gtv_229)))) h (moO h (nI le) bp (nI nr) (nI wh) (nI (((tq ++ [44]) ++ digs (lw k p0)) ++ [45]).length) (nI ne) (nI nf) (nI na) (nI an) (nI tm) (nI cn) (nI cs) (nI bd) (nI lt) (nI nt) fx fy)) (h + 9) (.inl (ca 0, 40, .inl (iN gtv_242))))
                            have he_249 : gm_up (gm_up (gm_up Mv (h + 9) (.inl (ca 0, 40, .inl (iN gtv_242)))) h (moO h (nI le) bp (nI nr) (nI wh) (nI (((tq ++ [44]) ++ digs (lw k p0)) ++ [45]).length) (nI ne) (nI nf) (nI na) (nI an) (nI tm) (nI cn) (nI cs) (nI bd) (nI lt) (nI nt) fx fy)) h (moO h (nI le) bp (nI nr) (nI wh) (nI ((((tq ++ [44]) ++ digs (lw k p0)) ++ [45]) ++ digs (hw k p0)).length) (nI ne) (nI nf) (nI na) (nI an) (nI tm) (nI cn) (nI cs) (nI bd) (nI lt) (nI nt) fx fy) = gm_up (gm_up Mv (h + 9) (.inl (ca 0, 40, .inl (iN gtv_242)))) h (moO h (nI le) bp (nI nr) (nI wh) (nI ((((tq ++ [44]) ++ digs (lw k p0)) ++ [45]) ++ digs (hw k p0)).length) (nI ne) (nI nf) (nI na) (nI an) (nI tm) (nI cn) (nI cs) (nI bd) (nI lt) (nI nt) fx fy) := gm_up_up _ _ _ _
                            have hP := Eq.mp (congrArg (fun Z => gm_P D cls A N (Z) H) he_249) hP
                            have hP : gm_P D cls A N (gm_up (gm_up Mv (h + 9) (.inl (ca 0, 40, .inl (iN gtv_242)))) h (moO h (nI le) bp (nI nr) (nI wh) (nI ((((tq ++ [44]) ++ digs (lw k p0)) ++ [45]) ++ digs (hw k p0)).length) (nI ne) (nI nf) (nI na) (nI an) (nI tm) (nI cn) (nI cs) (nI bd) (nI lt) (nI nt) fx fy)) H := hP
                            have h_250 := (congrFun he_249 _).symm.trans (gm_pass (k := h) (y := moO h (nI le) bp (nI nr) (nI wh) (nI ((((tq ++ [44]) ++ digs (lw k p0)) ++ [45]) ++ digs (hw k p0)).length) (nI ne) (nI nf) (nI na) (nI an) (nI tm) (nI cn) (nI cs) (nI bd) (nI lt) (nI nt) fx fy) h_245 (gm_ne h_245 h_247 (fun h => by cases h)))
                            have h_251 := (congrFun he_249 _).symm.trans (gm_pass (k := h) (y := moO h (nI le) bp (nI nr) (nI wh) (nI ((((tq ++ [44]) ++ digs (lw k p0)) ++ [45]) ++ digs (hw k p0)).length) (nI ne) (nI nf) (nI na) (nI an) (nI tm) (nI cn) (nI cs) (nI bd) (nI lt) (nI nt) fx fy) h_246 (gm_ne h_246 h_247 (fun h => by cases h)))
                            have h_252 := (congrFun he_249 _).symm.trans (gm_pass (k := h) (y := moO h (nI le) bp (nI nr) (nI wh) (nI ((((tq ++ [44]) ++ digs (lw k p0)) ++ [45]) ++ digs (hw k p0)).length) (nI ne) (nI nf) (nI na) (nI an) (nI tm) (nI cn) (nI cs) (nI bd) (nI lt) (nI nt) fx fy) h_248 (gm_ne h_248 h_247 (fun h => by cases h)))
                            have h_253 := (congrFun he_249 _).symm.trans (gm_up_self (gm_up (gm_up Mv (h + 9) (.inl (ca 0, 40, .inl (iN gtv_242)))) h (moO h (nI le) bp (nI nr) (nI wh) (nI (((tq ++ [44]) ++ digs (lw k p0)) ++ [45]).length) (nI ne) (nI nf) (nI na) (nI an) (nI tm) (nI cn) (nI cs) (nI bd) (nI lt) (nI nt) fx fy)) h (moO h (nI le) bp (nI nr) (nI wh) (nI ((((tq ++ [44]) ++ digs (lw k p0)) ++ [45]) ++ digs (hw k p0)).length) (nI ne) (nI nf) (nI na) (nI an) (nI tm) (nI cn) (nI cs) (nI bd) (nI lt) (nI nt) fx fy))
                            refine W.eq (g2 := F0 m 244 ls []) rfl ?_
                            refine lv_iinc (v := nI (p0 + 1)) (lv' := [(4, .int (nI (p0 + 1))), (6, .int (nI (hw k p0))), (5, .int (nI (lw k p0))), (0, .ref h), (2, .int (nI i)), (3, .int (nI k))]) hx hb d_Mo_ruleText_244 hl (k := 5) rfl (nI_1 p0) (by decide) rfl (fun ls hl => ?_)
                            refine lv_goto (tgt := 151) hx hb d_Mo_ruleText_247 (by decide) ?_
                            exact ih_151 (p0 + 1) ((((tq ++ [44]) ++ digs (lw k p0)) ++ [45]) ++ digs (hw k p0)) gtv_242 _ ls _ _ h_253 h_250 h_251 h_252 (by omega) (by rw [rtP_s, ← htq]; unfold rgx; (repeat (first | rw [if_pos (by omega)] | rw [if_neg (by omega)])); (try simp only [List.append_assoc, List.append_nil])) c_243 (fun z q0 q9 => (gm_up_ne _ _ q0).trans ((gm_up_ne _ _ q9).trans ((hfrv z q0 q9).trans (rfl)))) (by omega) hP hS (lv_sub hl [3, 4, 5, 0] rfl)
                          · skip
                            refine lv_goto (tgt := 244) hx hb d_Mo_ruleText_229 (by decide) ?_
                            refine lv_iinc (v := nI (p0 + 1)) (lv' := [(4, .int (nI (p0 + 1))), (6, .int (nI (hw k p0))), (5, .int (nI (lw k p0))), (0, .ref h), (2, .int (nI i)), (3, .int (nI k))]) hx hb d_Mo_ruleText_244 hl (k := 5) rfl (nI_1 p0) (by decide) rfl (fun ls hl => ?_)
                            refine lv_goto (tgt := 151) hx hb d_Mo_ruleText_247 (by decide) ?_
                            exact ih_151 (p0 + 1) ((tq ++ [44]) ++ digs (lw k p0)) gtv_215 _ ls _ _ h_226 h_223 h_224 h_225 (by omega) (by rw [rtP_s, ← htq]; unfold rgx; (repeat (first | rw [if_pos (by omega)] | rw [if_neg (by omega)])); (try simp only [List.append_assoc, List.append_nil])) c_216 (fun z q0 q9 => (gm_up_ne _ _ q0).trans ((gm_up_ne _ _ q9).trans ((hfrv z q0 q9).trans (rfl)))) (by omega) hP hS (lv_sub hl [3, 4, 5, 0] rfl)
                        · skip
                          refine lv_aload_n hx hb d_Mo_ruleText_207 rfl (lv_at hl 2 rfl) ?_
                          refine lv_bipush (v := nI 42) hx hb d_Mo_ruleText_208 (by decide) ?_
                          refine gc_V (q := (R_Mo, F_Mo, 44)) (n := 1) [.int (nI 42)] [] hx hb hml hown hts hK hN hX hP hS (c_Mo_say h_171 h_170 c_163 (by have := hU.2 k 0; have := hU.2 k 0; first | omega | (simp only [List.length_append, List.length_singleton, List.length_nil]; omega))) rfl h_171 k_911 k_913 ks_Mo_say k_10 k_914 (by decide +kernel) ⟨by decide, by decide⟩ rfl hl.1 rfl (Nat.le_of_ble_eq_true rfl) d_Mo_ruleText_210 ⟨by decide, by decide⟩ (fun r N1 M_254 H locs hw hP hS => ?_)
                          obtain ⟨rfl, hw⟩ := hw
                          obtain ⟨gtv_255, c_256, rfl⟩ := hw
                          have he_257 : gm_up (gm_up (gm_up Mv (h + 9) (.inl (ca 0, 40, .inl (iN gtv_162)))) h (moO h (nI le) bp (nI nr) (nI wh) (nI (tq ++ [44]).length) (nI ne) (nI nf) (nI na) (nI an) (nI tm) (nI cn) (nI cs) (nI bd) (nI lt) (nI nt) fx fy)) (h + 9) (.inl (ca 0, 40, .inl (iN gtv_255))) = gm_up (gm_up Mv (h + 9) (.inl (ca 0, 40, .inl (iN gtv_255)))) h (moO h (nI le) bp (nI nr) (nI wh) (nI (tq ++ [44]).length) (nI ne) (nI nf) (nI na) (nI an) (nI tm) (nI cn) (nI cs) (nI bd) (nI lt) (nI nt) fx fy) := (gm_swap (gm_ne h_171 h_170 (fun h => by cases h))).trans (congrArg (fun Z => gm_up Z h (moO h (nI le) bp (nI nr) (nI wh) (nI (tq ++ [44]).length) (nI ne) (nI nf) (nI na) (nI an) (nI tm) (nI cn) (nI cs) (nI bd) (nI lt) (nI nt) fx fy)) (gm_up_up _ _ _ _))
                          have hP := Eq.mp (congrArg (fun Z => gm_P D cls A N (gm_up Z h (moO h (nI le) bp (nI nr) (nI wh) (nI ((tq ++ [44]) ++ [42]).length) (nI ne) (nI nf) (nI na) (nI an) (nI tm) (nI cn) (nI cs) (nI bd) (nI lt) (nI nt) fx fy)) H) he_257) hP
                          have h_258 := (congrFun he_257 _).symm.trans (gm_pass (k := (h + 9)) (y := .inl (ca 0, 40, .inl (iN gtv_255))) h_168 (gm_ne h_168 h_170 (fun h => by simp at h)))
                          have h_259 := (congrFun he_257 _).symm.trans (gm_pass (k := (h + 9)) (y := .inl (ca 0, 40, .inl (iN gtv_255))) h_169 (gm_ne h_169 h_170 (fun h => by simp at h)))
                          have h_260 := (congrFun he_257 _).symm.trans (gm_pass (k := (h + 9)) (y := .inl (ca 0, 40, .inl (iN gtv_255))) h_171 (gm_ne h_171 h_170 (fun h => by cases h)))
                          have h_261 := (congrFun he_257 _).symm.trans (gm_up_self (gm_up (gm_up Mv (h + 9) (.inl (ca 0, 40, .inl (iN gtv_162)))) h (moO h (nI le) bp (nI nr) (nI wh) (nI (tq ++ [44]).length) (nI ne) (nI nf) (nI na) (nI an) (nI tm) (nI cn) (nI cs) (nI bd) (nI lt) (nI nt) fx fy)) (h + 9) (.inl (ca 0, 40, .inl (iN gtv_255))))
                          have he_262 : gm_up (gm_up (gm_up Mv (h + 9) (.inl (ca 0, 40, .inl (iN gtv_255)))) h (moO h (nI le) bp (nI nr) (nI wh) (nI (tq ++ [44]).length) (nI ne) (nI nf) (nI na) (nI an) (nI tm) (nI cn) (nI cs) (nI bd) (nI lt) (nI nt) fx fy)) h (moO h (nI le) bp (nI nr) (nI wh) (nI ((tq ++ [44]) ++ [42]).length) (nI ne) (nI nf) (nI na) (nI an) (nI tm) (nI cn) (nI cs) (nI bd) (nI lt) (nI nt) fx fy) = gm_up (gm_up Mv (h + 9) (.inl (ca 0, 40, .inl (iN gtv_255)))) h (moO h (nI le) bp (nI nr) (nI wh) (nI ((tq ++ [44]) ++ [42]).length) (nI ne) (nI nf) (nI na) (nI an) (nI tm) (nI cn) (nI cs) (nI bd) (nI lt) (nI nt) fx fy) := gm_up_up _ _ _ _
                          have hP := Eq.mp (congrArg (fun Z => gm_P D cls A N (Z) H) he_262) hP
                          have hP : gm_P D cls A N (gm_up (gm_up Mv (h + 9) (.inl (ca 0, 40, .inl (iN gtv_255)))) h (moO h (nI le) bp (nI nr) (nI wh) (nI ((tq ++ [44]) ++ [42]).length) (nI ne) (nI nf) (nI na) (nI an) (nI tm) (nI cn) (nI cs) (nI bd) (nI lt) (nI nt) fx fy)) H := hP
                          have h_263 := (congrFun he_262 _).symm.trans (gm_pass (k := h) (y := moO h (nI le) bp (nI nr) (nI wh) (nI ((tq ++ [44]) ++ [42]).length) (nI ne) (nI nf) (nI na) (nI an) (nI tm) (nI cn) (nI cs) (nI bd) (nI lt) (nI nt) fx fy) h_258 (gm_ne h_258 h_260 (fun h => by cases h)))
                          have h_264 := (congrFun he_262 _).symm.trans (gm_pass (k := h) (y := moO h (nI le) bp (nI nr) (nI wh) (nI ((tq ++ [44]) ++ [42]).length) (nI ne) (nI nf) (nI na) (nI an) (nI tm) (nI cn) (nI cs) (nI bd) (nI lt) (nI nt) fx fy) h_259 (gm_ne h_259 h_260 (fun h => by cases h)))
                          have h_265 := (congrFun he_262 _).symm.trans (gm_pass (k := h) (y := moO h (nI le) bp (nI nr) (nI wh) (nI ((tq ++ [44]) ++ [42]).length) (nI ne) (nI nf) (nI na) (nI an) (nI tm) (nI cn) (nI cs) (nI bd) (nI lt) (nI nt) fx fy) h_261 (gm_ne h_261 h_260 (fun h => by cases h)))
                          have h_266 := (congrFun he_262 _).symm.trans (gm_up_self (gm_up (gm_up Mv (h + 9) (.inl (ca 0, 40, .inl (iN gtv_255)))) h (moO h (nI le) bp (nI nr) (nI wh) (nI (tq ++ [44]).length) (nI ne) (nI nf) (nI na) (nI an) (nI tm) (nI cn) (nI cs) (nI bd) (nI lt) (nI nt) fx fy)) h (moO h (nI le) bp (nI nr) (nI wh) (nI ((tq ++ [44]) ++ [42]).length) (nI ne) (nI nf) (nI na) (nI an) (nI tm) (nI cn) (nI cs) (nI bd) (nI lt) (nI nt) fx fy))
                          refine W.eq (g2 := F0 m 213 ls []) rfl ?_
                          refine lv_goto (tgt := 244) hx hb d_Mo_ruleText_213 (by decide) ?_
                          refine lv_iinc (v := nI (p0 + 1)) (lv' := [(4, .int (nI (p0 + 1))), (6, .int (nI (hw k p0))), (5, .int (nI (lw k p0))), (0, .ref h), (2, .int (nI i)), (3, .int (nI k))]) hx hb d_Mo_ruleText_244 hl (k := 5) rfl (nI_1 p0) (by decide) rfl (fun ls hl => ?_)
                          refine lv_goto (tgt := 151) hx hb d_Mo_ruleText_247 (by decide) ?_
                          exact ih_151 (p0 + 1) ((tq ++ [44]) ++ [42]) gtv_255 _ ls _ _ h_266 h_263 h_264 h_265 (by omega) (by rw [rtP_s, ← htq]; unfold rgx; (repeat (first | rw [if_pos (by omega)] | rw [if_neg (by omega)])); (try simp only [List.append_assoc, List.append_nil])) c_256 (fun z q0 q9 => (gm_up_ne _ _ q0).trans ((gm_up_ne _ _ q9).trans ((hfrv z q0 q9).trans (rfl)))) (by omega) hP hS (lv_sub hl [3, 4, 5, 0] rfl)
              exact loop_151 (_ + 1) 0 (((([] : List Nat) ++ [cc0]) ++ [cc1]) ++ [cc2]) gtv_49 _ ls _ locs h_66 h_63 h_64 h_65 (Nat.zero_le _) (by rw [hj_60, hj_95, hj_145]; rfl) c_50 (fun z q0 q9 => (gm_up_ne _ _ q9).trans ((gm_up_ne _ _ q0).trans (rfl))) (Nat.lt_succ_self _) hP hS (lv_sub hl [1, 3, 4, 0] rfl)
            · skip
              refine lv_aload_n hx hb d_Mo_ruleText_98 rfl (lv_at hl 0 rfl) ?_
              refine lv_aload_n hx hb d_Mo_ruleText_99 rfl (lv_at hl 0 rfl) ?_
              refine gm_get (C := R_Mo) (T := F_Mo) (n := 44) hx hb htl i_Mo hown hK hP h_47 rfl 5 (by decide) (htl _ k_748) (fun _ h => h) rfl d_Mo_ruleText_100 ?_
              refine lv_iload_n hx hb d_Mo_ruleText_103 rfl (lv_at hl 3 rfl) ?_
              refine gz_iald hx hb hK hP 0 h_43 rfl (by omega) (by omega) d_Mo_ruleText_104 ?_
              rw [show mp k = ru k 2 from (hRU k hk0).2.2.1]
              have b_267 := hU.1 k hk0
              refine lz_ne (tgt := 113) hx hb d_Mo_ruleText_105 (by decide) (by omega) (fun c_268 => ?_) (fun c_268 => ?_)
              · skip
                refine lv_aload_n hx hb d_Mo_ruleText_113 rfl (lv_at hl 0 rfl) ?_
                refine gm_get (C := R_Mo) (T := F_Mo) (n := 44) hx hb htl i_Mo hown hK hP h_47 rfl 5 (by decide) (htl _ k_748) (fun _ h => h) rfl d_Mo_ruleText_114 ?_
                refine lv_iload_n hx hb d_Mo_ruleText_117 rfl (lv_at hl 3 rfl) ?_
                refine gz_iald hx hb hK hP 0 h_43 rfl (by omega) (by omega) d_Mo_ruleText_118 ?_
                rw [show mp k = ru k 2 from (hRU k hk0).2.2.1]
                have b_269 := hU.1 k hk0
                refine lv_iconst (v := nI 1) hx hb d_Mo_ruleText_119 (by decide) ?_
                refine ln_ne (tgt := 128) hx hb d_Mo_ruleText_120 (by decide) (by omega) (by omega) (fun c_270 => ?_) (fun c_270 => ?_)
                · skip
                  refine lv_aload_n hx hb d_Mo_ruleText_128 rfl (lv_at hl 0 rfl) ?_
                  refine gm_get (C := R_Mo) (T := F_Mo) (n := 44) hx hb htl i_Mo hown hK hP h_47 rfl 5 (by decide) (htl _ k_748) (fun _ h => h) rfl d_Mo_ruleText_129 ?_
                  refine lv_iload_n hx hb d_Mo_ruleText_132 rfl (lv_at hl 3 rfl) ?_
                  refine gz_iald hx hb hK hP 0 h_43 rfl (by omega) (by omega) d_Mo_ruleText_133 ?_
                  rw [show mp k = ru k 2 from (hRU k hk0).2.2.1]
                  have b_271 := hU.1 k hk0
                  refine lv_iconst (v := nI 2) hx hb d_Mo_ruleText_134 (by decide) ?_
                  refine ln_ne (tgt := 143) hx hb d_Mo_ruleText_135 (by decide) (by omega) (by omega) (fun c_272 => ?_) (fun c_272 => ?_)
                  · skip
                    refine lv_bipush (v := nI 42) hx hb d_Mo_ruleText_143 (by decide) ?_
                    exact jn_145 42 ls (lv_sub hl [0, 1, 2, 3] rfl) (by rw [show ru k 2 = 3 from (by have := hU.1 k hk0; omega)]; decide)
                  · skip
                    refine lv_bipush (v := nI 101) hx hb d_Mo_ruleText_138 (by decide) ?_
                    refine lv_goto (tgt := 145) hx hb d_Mo_ruleText_140 (by decide) ?_
                    exact jn_145 101 ls (lv_sub hl [0, 1, 2, 3] rfl) (by rw [show ru k 2 = 2 from (by have := hU.1 k hk0; omega)]; decide)
                · skip
                  refine lv_bipush (v := nI 117) hx hb d_Mo_ruleText_123 (by decide) ?_
                  refine lv_goto (tgt := 145) hx hb d_Mo_ruleText_125 (by decide) ?_
                  exact jn_145 117 ls (lv_sub hl [0, 1, 2, 3] rfl) (by rw [show ru k 2 = 1 from (by have := hU.1 k hk0; omega)]; decide)
              · skip
                refine lv_bipush (v := nI 116) hx hb d_Mo_ruleText_108 (by decide) ?_
                refine lv_goto (tgt := 145) hx hb d_Mo_ruleText_110 (by decide) ?_
                exact jn_145 116 ls (lv_sub hl [0, 1, 2, 3] rfl) (by rw [show ru k 2 = 0 from (by have := hU.1 k hk0; omega)]; decide)
          · skip
            refine lv_aload_n hx hb d_Mo_ruleText_63 rfl (lv_at hl 0 rfl) ?_
            refine lv_aload_n hx hb d_Mo_ruleText_64 rfl (lv_at hl 0 rfl) ?_
            refine gm_get (C := R_Mo) (T := F_Mo) (n := 44) hx hb htl i_Mo hown hK hP h_28 rfl 4 (by decide) (htl _ k_747) (fun _ h => h) rfl d_Mo_ruleText_65 ?_
            refine lv_iload_n hx hb d_Mo_ruleText_68 rfl (lv_at hl 3 rfl) ?_
            refine gz_iald hx hb hK hP 0 h_23 rfl (by omega) (by omega) d_Mo_ruleText_69 ?_
            rw [show mw k = ru k 1 from (hRU k hk0).2.1]
            have b_273 := hU.1 k hk0
            refine lz_ne (tgt := 78) hx hb d_Mo_ruleText_70 (by decide) (by omega) (fun c_274 => ?_) (fun c_274 => ?_)
            · skip
              refine lv_aload_n hx hb d_Mo_ruleText_78 rfl (lv_at hl 0 rfl) ?_
              refine gm_get (C := R_Mo) (T := F_Mo) (n := 44) hx hb htl i_Mo hown hK hP h_28 rfl 4 (by decide) (htl _ k_747) (fun _ h => h) rfl d_Mo_ruleText_79 ?_
              refine lv_iload_n hx hb d_Mo_ruleText_82 rfl (lv_at hl 3 rfl) ?_
              refine gz_iald hx hb hK hP 0 h_23 rfl (by omega) (by omega) d_Mo_ruleText_83 ?_
              rw [show mw k = ru k 1 from (hRU k hk0).2.1]
              have b_275 := hU.1 k hk0
              refine lv_iconst (v := nI 1) hx hb d_Mo_ruleText_84 (by decide) ?_
              refine ln_ne (tgt := 93) hx hb d_Mo_ruleText_85 (by decide) (by omega) (by omega) (fun c_276 => ?_) (fun c_276 => ?_)
              · skip
                refine lv_bipush (v := nI 98) hx hb d_Mo_ruleText_93 (by decide) ?_
                exact jn_95 98 ls (lv_sub hl [0, 1, 2, 3] rfl) (by rw [show ru k 1 = 2 from (by have := hU.1 k hk0; omega)]; decide)
              · skip
                refine lv_bipush (v := nI 111) hx hb d_Mo_ruleText_88 (by decide) ?_
                refine lv_goto (tgt := 95) hx hb d_Mo_ruleText_90 (by decide) ?_
                exact jn_95 111 ls (lv_sub hl [0, 1, 2, 3] rfl) (by rw [show ru k 1 = 1 from (by have := hU.1 k hk0; omega)]; decide)
            · skip
              refine lv_bipush (v := nI 105) hx hb d_Mo_ruleText_73 (by decide) ?_
              refine lv_goto (tgt := 95) hx hb d_Mo_ruleText_75 (by decide) ?_
              exact jn_95 105 ls (lv_sub hl [0, 1, 2, 3] rfl) (by rw [show ru k 1 = 0 from (by have := hU.1 k hk0; omega)]; decide)
        · skip
          refine lv_aload_n hx hb d_Mo_ruleText_28 rfl (lv_at hl 1 rfl) ?_
          refine lv_aload_n hx hb d_Mo_ruleText_29 rfl (lv_at hl 1 rfl) ?_
          refine gm_get (C := R_Mo) (T := F_Mo) (n := 44) hx hb htl i_Mo hown hK hP h_10 rfl 3 (by decide) (htl _ k_746) (fun _ h => h) rfl d_Mo_ruleText_30 ?_
          refine lv_iload_n hx hb d_Mo_ruleText_33 rfl (lv_at hl 0 rfl) ?_
          refine gz_iald hx hb hK hP 0 h_4 rfl (by omega) (by omega) d_Mo_ruleText_34 ?_
          rw [show ma k = ru k 0 from (hRU k hk0).1]
          have b_277 := hU.1 k hk0
          refine lz_ne (tgt := 43) hx hb d_Mo_ruleText_35 (by decide) (by omega) (fun c_278 => ?_) (fun c_278 => ?_)
          · skip
            refine lv_aload_n hx hb d_Mo_ruleText_43 rfl (lv_at hl 1 rfl) ?_
            refine gm_get (C := R_Mo) (T := F_Mo) (n := 44) hx hb htl i_Mo hown hK hP h_10 rfl 3 (by decide) (htl _ k_746) (fun _ h => h) rfl d_Mo_ruleText_44 ?_
            refine lv_iload_n hx hb d_Mo_ruleText_47 rfl (lv_at hl 0 rfl) ?_
            refine gz_iald hx hb hK hP 0 h_4 rfl (by omega) (by omega) d_Mo_ruleText_48 ?_
            rw [show ma k = ru k 0 from (hRU k hk0).1]
            have b_279 := hU.1 k hk0
            refine lv_iconst (v := nI 1) hx hb d_Mo_ruleText_49 (by decide) ?_
            refine ln_ne (tgt := 58) hx hb d_Mo_ruleText_50 (by decide) (by omega) (by omega) (fun c_280 => ?_) (fun c_280 => ?_)
            · skip
              refine lv_bipush (v := nI 83) hx hb d_Mo_ruleText_58 (by decide) ?_
              exact jn_60 83 ls (lv_sub hl [1, 2, 3, 0] rfl) (by rw [show ru k 0 = 2 from (by have := hU.1 k hk0; omega)]; decide)
            · skip
              refine lv_bipush (v := nI 68) hx hb d_Mo_ruleText_53 (by decide) ?_
              refine lv_goto (tgt := 60) hx hb d_Mo_ruleText_55 (by decide) ?_
              exact jn_60 68 ls (lv_sub hl [1, 2, 3, 0] rfl) (by rw [show ru k 0 = 1 from (by have := hU.1 k hk0; omega)]; decide)
          · skip
            refine lv_bipush (v := nI 80) hx hb d_Mo_ruleText_38 (by decide) ?_
            refine lv_goto (tgt := 60) hx hb d_Mo_ruleText_40 (by decide) ?_
            exact jn_60 80 ls (lv_sub hl [1, 2, 3, 0] rfl) (by rw [show ru k 0 = 0 from (by have := hU.1 k hk0; omega)]; decide)
  · skip
    refine lv_iload_n hx hb d_Mo_ruleText_0 rfl (lv_at hl 1 rfl) ?_
    refine lv_iconst (v := nI 1) hx hb d_Mo_ruleText_1 (by decide) ?_
    refine lv_icmp_lt (tgt := 17) hx hb d_Mo_ruleText_2 (by decide) (fun c_281 => ?_) (fun c_281 => ?_)
    · skip
      refine lv_iconst (v := (-1)) hx hb d_Mo_ruleText_17 (by decide) ?_
      rw [← hQ]
      exact gc_iret hx hb hr hlk hP hS d_Mo_ruleText_18 ⟨rfl, Or.inl ⟨hno, rfl, rfl⟩⟩
    · skip
      refine lv_iload_n hx hb d_Mo_ruleText_5 rfl (lv_at hl 1 rfl) ?_
      refine lv_aload_n hx hb d_Mo_ruleText_6 rfl (lv_at hl 0 rfl) ?_
      refine gm_get (C := R_Mo) (T := F_Mo) (n := 44) hx hb htl i_Mo hown hK hP eh rfl 8 (by decide) (htl _ k_751) (fun _ h => h) rfl d_Mo_ruleText_7 ?_
      refine lv_icmp_gt (tgt := 17) hx hb d_Mo_ruleText_10 (by decide) (fun c_282 => ?_) (fun c_282 => ?_)
      · skip
        refine lv_iconst (v := (-1)) hx hb d_Mo_ruleText_17 (by decide) ?_
        rw [← hQ]
        exact gc_iret hx hb hr hlk hP hS d_Mo_ruleText_18 ⟨rfl, Or.inl ⟨hno, rfl, rfl⟩⟩
      · skip
        refine lv_iload_n hx hb d_Mo_ruleText_13 rfl (lv_at hl 2 rfl) ?_
        refine lv_if_ge (tgt := 19) hx hb d_Mo_ruleText_14 (by decide) (fun c_283 => ?_) (fun c_283 => ?_)
        · exact False.elim (hno.elim (fun q => q (lift1 (by omega) ⟨c_281, c_282⟩)) (fun q => Int32.not_lt.mpr c_283 q))
        · skip
          refine lv_iconst (v := (-1)) hx hb d_Mo_ruleText_17 (by decide) ?_
          rw [← hQ]
          exact gc_iret hx hb hr hlk hP hS d_Mo_ruleText_18 ⟨rfl, Or.inl ⟨hno, rfl, rfl⟩⟩
set_option maxHeartbeats 4000000 in
set_option maxRecDepth 100000 in
theorem c_Mo_fits {v0 a b : Nat} (hv : v0 < 65536) (ha : a < 65536) (hb0 : b < 65536) : gC l D ca A G y_Mo_fits (.code y_Mo_fits b_Mo_fits 3 (some .boolean)) ({ frames := 0, cells := 0, slots := 0, locals := 0 }) N M [.int (nI v0), .int (nI a), .int (nI b)] gm_i (fun (r : Int32) (N1 : Nat) (M1 : gm_M) => N = N1 ∧ (((a ≤ v0 ∧ v0 ≤ b) ∧ M = M1 ∧ nI 1 = r) ∨ ((¬ (a ≤ v0 ∧ v0 ≤ b)) ∧ M = M1 ∧ nI 0 = r))) := by
  refine gm_body (by decide) (Nat.le_of_ble_eq_true rfl) (fun p e s m below meth c ls hx hb hr hts hown hlk hml hnm hP hK hN hX hS hl => ?_)
  have htl : ∀ w ∈ LW, w.before _ s = true := fun w h => hts w (List.mem_cons_of_mem _ h)
  have hown : s.vm.findClass "PacketGateModel" = some m.cls := hown
  have hl : lv_has ls 3 [(0, .int (nI v0)), (1, .int (nI a)), (2, .int (nI b))] := hl
  refine lv_iload_n hx hb d_Mo_fits_0 rfl (lv_at hl 0 rfl) ?_
  refine lv_iload_n hx hb d_Mo_fits_1 rfl (lv_at hl 1 rfl) ?_
  refine ln_lt (tgt := 14) hx hb d_Mo_fits_2 (by decide) (by omega) (by omega) (fun c_1 => ?_) (fun c_1 => ?_)
  · skip
    refine lv_iconst (v := nI 0) hx hb d_Mo_fits_14 (by decide) ?_
    exact gc_zret hx hb hr hlk hP hS d_Mo_fits_15 rfl (by first | exact ⟨rfl, Or.inl ⟨(by first | assumption | omega), rfl, rfl⟩⟩ | exact ⟨rfl, Or.inr ⟨(by first | assumption | omega), rfl, rfl⟩⟩)
  · skip
    refine lv_iload_n hx hb d_Mo_fits_5 rfl (lv_at hl 0 rfl) ?_
    refine lv_iload_n hx hb d_Mo_fits_6 rfl (lv_at hl 2 rfl) ?_
    refine ln_gt (tgt := 14) hx hb d_Mo_fits_7 (by decide) (by omega) (by omega) (fun c_2 => ?_) (fun c_2 => ?_)
    · skip
      refine lv_iconst (v := nI 0) hx hb d_Mo_fits_14 (by decide) ?_
      exact gc_zret hx hb hr hlk hP hS d_Mo_fits_15 rfl (by first | exact ⟨rfl, Or.inl ⟨(by first | assumption | omega), rfl, rfl⟩⟩ | exact ⟨rfl, Or.inr ⟨(by first | assumption | omega), rfl, rfl⟩⟩)
    · skip
      refine lv_iconst (v := nI 1) hx hb d_Mo_fits_10 (by decide) ?_
      refine lv_goto (tgt := 15) hx hb d_Mo_fits_11 (by decide) ?_
      exact gc_zret hx hb hr hlk hP hS d_Mo_fits_15 rfl (by first | exact ⟨rfl, Or.inl ⟨(by first | assumption | omega), rfl, rfl⟩⟩ | exact ⟨rfl, Or.inr ⟨(by first | assumption | omega), rfl, rfl⟩⟩)
set_option maxHeartbeats 4000000 in
set_option maxRecDepth 100000 in
theorem c_Mo_policy {h le nr tl ne nf na an tm cn cs bd lt nt wh : Nat} {bp fx fy : Int32} {ma : Nat → Nat} {mw : Nat → Nat} {mp : Nat → Nat} {ml : Nat → Nat} {mh : Nat → Nat} {ru lw hw : Nat → Nat → Nat} {d0 pr0 s0 t0 sa0 ta0 tp0 : Nat} (eh : M h = some (moO h (nI le) bp (nI nr) (nI wh) (nI tl) (nI ne) (nI nf) (nI na) (nI an) (nI tm) (nI cn) (nI cs) (nI bd) (nI lt) (nI nt) fx fy)) (m2 : M (h + 2) = some (.inl (ca 0, 17, .inl (iN ma)))) (m3 : M (h + 3) = some (.inl (ca 0, 17, .inl (iN mw)))) (m4 : M (h + 4) = some (.inl (ca 0, 17, .inl (iN mp)))) (m5 : M (h + 5) = some (.inl (ca 0, 51, .inl (iN ml)))) (m6 : M (h + 6) = some (.inl (ca 0, 51, .inl (iN mh)))) (hRU : relU nr ru lw hw ma mw mp ml mh) (hU : okU nr ru lw hw) (hnr : nr ≤ 16) (hd0 : d0 < 65536) (hpr0 : pr0 < 65536) (hsa : s0 / 256 = sa0 ∧ t0 / 256 = ta0 ∧ t0 % 256 = tp0) (hs0 : s0 < 65536) (ht0 : t0 < 65536) : gC l D ca A G y_Mo_policy (.code y_Mo_policy b_Mo_policy 7 (some .int)) ({ frames := 1, cells := 0, slots := 0, locals := 22 }) N M [.ref h, .int (nI d0), .int (nI pr0), .int (nI sa0), .int (nI ta0), .int (nI tp0)] gm_i (fun (r : Int32) (N1 : Nat) (M1 : gm_M) => N = N1 ∧ ∃ (a : Nat), (pol ru lw hw nr d0 pr0 s0 t0 a) ∧ M = M1 ∧ nI a = r) := by
  refine gm_body (by decide) (Nat.le_of_ble_eq_true rfl) (fun p e s m below meth c ls hx hb hr hts hown hlk hml hnm hP hK hN hX hS hl => ?_)
  have htl : ∀ w ∈ LW, w.before _ s = true := fun w h => hts w (List.mem_cons_of_mem _ h)
  have hown : s.vm.findClass "PacketGateModel" = some m.cls := hown
  have hl : lv_has ls 7 [(0, .ref h), (1, .int (nI d0)), (2, .int (nI pr0)), (3, .int (nI sa0)), (4, .int (nI ta0)), (5, .int (nI tp0))] := hl
  generalize hQ : MQ below _ _ s _ _ A = Q
  refine lv_iconst (v := nI 0) hx hb d_Mo_policy_0 (by decide) ?_
  refine lv_istore (lv' := [(6, .int (nI 0)), (0, .ref h), (1, .int (nI d0)), (2, .int (nI pr0)), (3, .int (nI sa0)), (4, .int (nI ta0)), (5, .int (nI tp0))]) hx hb d_Mo_policy_1 hl (by decide) rfl (fun ls hl => ?_)
  have loop_3 : ∀ (fu : Nat) (i : Nat) (ls : Array Slot) (H : Heap) (locs : List Loc), (i ≤ nr) → (∀ j, j < i → ¬ mat (ru j 1) (ru j 2) (lw j) (hw j) d0 pr0 s0 t0) → (nr - i) < fu → gm_P D cls A N M H → va_S A s.heap H locs → lv_has ls 7 [(0, .ref h), (1, .int (nI d0)), (2, .int (nI pr0)), (3, .int (nI sa0)), (4, .int (nI ta0)), (5, .int (nI tp0)), (6, .int (nI i))] → W p l e ({ frames := 1, cells := 0, slots := 0, locals := 22 }) s m ([.ref h, .int (nI d0), .int (nI pr0), .int (nI sa0), .int (nI ta0), .int (nI tp0)] : List Value).toArray below meth c H locs (0) (0) Q (F0 m 3 ls []) := by
    intro fu
    induction fu with
    | zero => intro i ls H locs hi hno hk; exact absurd hk (Nat.not_lt_zero _)
    | succ fu ih_3 =>
      intro i ls H locs hi hno hk hP hS hl
      refine lv_iload hx hb d_Mo_policy_3 (lv_at hl 6 rfl) ?_
      refine lv_aload_n hx hb d_Mo_policy_5 rfl (lv_at hl 0 rfl) ?_
      refine gm_get (C := R_Mo) (T := F_Mo) (n := 44) hx hb htl i_Mo hown hK hP eh rfl 8 (by decide) (htl _ k_751) (fun _ h => h) rfl d_Mo_policy_6 ?_
      refine ln_ge (tgt := 161) hx hb d_Mo_policy_9 (by decide) (by omega) (by omega) (fun c_1 => ?_) (fun c_1 => ?_)
      · skip
        refine lv_iconst (v := nI 1) hx hb d_Mo_policy_161 (by decide) ?_
        rw [← hQ]
        exact gc_iret hx hb hr hlk hP hS d_Mo_policy_162 ⟨rfl, 1, Or.inr ⟨fun j hj => hno j (by omega), rfl⟩, rfl, rfl⟩
      · skip
        refine lv_aload_n hx hb d_Mo_policy_12 rfl (lv_at hl 0 rfl) ?_
        refine gm_get (C := R_Mo) (T := F_Mo) (n := 44) hx hb htl i_Mo hown hK hP eh rfl 4 (by decide) (htl _ k_747) (fun _ h => h) rfl d_Mo_policy_13 ?_
        refine lv_iload hx hb d_Mo_policy_16 (lv_at hl 6 rfl) ?_
        refine gz_iald hx hb hK hP 0 m3 rfl (by omega) (by omega) d_Mo_policy_18 ?_
        rw [show mw i = ru i 1 from (hRU i (by omega)).2.1]
        have b_2 := hU.1 i (by omega)
        refine lv_iconst (v := nI 2) hx hb d_Mo_policy_19 (by decide) ?_
        refine ln_eq (tgt := 34) hx hb d_Mo_policy_20 (by decide) (by omega) (by omega) (fun c_3 => ?_) (fun c_3 => ?_)
        · skip
          refine lv_aload_n hx hb d_Mo_policy_34 rfl (lv_at hl 0 rfl) ?_
          refine gm_get (C := R_Mo) (T := F_Mo) (n := 44) hx hb htl i_Mo hown hK hP eh rfl 5 (by decide) (htl _ k_748) (fun _ h => h) rfl d_Mo_policy_35 ?_
          refine lv_iload hx hb d_Mo_policy_38 (lv_at hl 6 rfl) ?_
          refine gz_iald hx hb hK hP 0 m4 rfl (by omega) (by omega) d_Mo_policy_40 ?_
          rw [show mp i = ru i 2 from (hRU i (by omega)).2.2.1]
          have b_4 := hU.1 i (by omega)
          refine lv_iconst (v := nI 3) hx hb d_Mo_policy_41 (by decide) ?_
          refine ln_eq (tgt := 59) hx hb d_Mo_policy_42 (by decide) (by omega) (by omega) (fun c_5 => ?_) (fun c_5 => ?_)
          · skip
            refine lv_iload_n hx hb d_Mo_policy_59 rfl (lv_at hl 3 rfl) ?_
            refine lv_aload_n hx hb d_Mo_policy_60 rfl (lv_at hl 0 rfl) ?_
            refine gm_get (C := R_Mo) (T := F_Mo) (n := 44) hx hb htl i_Mo hown hK hP eh rfl 6 (by decide) (htl _ k_749) (fun _ h => h) rfl d_Mo_policy_61 ?_
            refine lv_iload hx hb d_Mo_policy_64 (lv_at hl 6 rfl) ?_
            refine lv_iconst (v := nI 3) hx hb d_Mo_policy_66 (by decide) ?_
            refine lv_imul hx hb d_Mo_policy_67 ?_
            rw [show (nI i) * (nI 3) = nI (i * 3) from pk_mul _ _]
            refine gz_iald hx hb hK hP 0 m5 rfl (by omega) (by omega) d_Mo_policy_68 ?_
            rw [show ml (i * 3) = lw i 0 from relU_l hRU (by omega) (p := 0) (by decide)]
            have b_6 := hU.2 i 0
            refine lv_aload_n hx hb d_Mo_policy_69 rfl (lv_at hl 0 rfl) ?_
            refine gm_get (C := R_Mo) (T := F_Mo) (n := 44) hx hb htl i_Mo hown hK hP eh rfl 7 (by decide) (htl _ k_750) (fun _ h => h) rfl d_Mo_policy_70 ?_
            refine lv_iload hx hb d_Mo_policy_73 (lv_at hl 6 rfl) ?_
            refine lv_iconst (v := nI 3) hx hb d_Mo_policy_75 (by decide) ?_
            refine lv_imul hx hb d_Mo_policy_76 ?_
            rw [show (nI i) * (nI 3) = nI (i * 3) from pk_mul _ _]
            refine gz_iald hx hb hK hP 0 m6 rfl (by omega) (by omega) d_Mo_policy_77 ?_
            rw [show mh (i * 3) = hw i 0 from relU_h hRU (by omega) (p := 0) (by decide)]
            have b_7 := hU.2 i 0
            refine gc_S (n := 3) [.int (nI sa0), .int (nI (lw i 0)), .int (nI (hw i 0))] [] hx hb hml hown hts hK hN hX hP hS (c_Mo_fits (by omega) (by omega) (by omega)) k_983 k_984 k_10 k_985 (by decide +kernel) ⟨by decide, by decide⟩ rfl hl.1 rfl (Nat.le_of_ble_eq_true rfl) d_Mo_policy_78 ⟨by decide, by decide⟩ (fun r N1 M_8 H locs hw hP hS => ?_)
            obtain ⟨rfl, hw⟩ := hw
            rcases hw with ⟨c_9, rfl, rfl⟩ | ⟨c_10, rfl, rfl⟩
            · skip
              refine W.eq (g2 := F0 m 81 ls [.int (nI 1)]) rfl ?_
              refine lv_if_eq (tgt := 155) hx hb d_Mo_policy_81 (by decide) (fun q => absurd q (by decide)) (fun _ => ?_)
              refine lv_iload hx hb d_Mo_policy_84 (lv_at hl 4 rfl) ?_
              refine lv_aload_n hx hb d_Mo_policy_86 rfl (lv_at hl 0 rfl) ?_
              refine gm_get (C := R_Mo) (T := F_Mo) (n := 44) hx hb htl i_Mo hown hK hP eh rfl 6 (by decide) (htl _ k_749) (fun _ h => h) rfl d_Mo_policy_87 ?_
              refine lv_iload hx hb d_Mo_policy_90 (lv_at hl 6 rfl) ?_
              refine lv_iconst (v := nI 3) hx hb d_Mo_policy_92 (by decide) ?_
              refine lv_imul hx hb d_Mo_policy_93 ?_
              rw [show (nI i) * (nI 3) = nI (i * 3) from pk_mul _ _]
              refine lv_iconst (v := nI 1) hx hb d_Mo_policy_94 (by decide) ?_
              refine lv_iadd hx hb d_Mo_policy_95 ?_
              rw [show (nI (i * 3)) + (nI 1) = nI ((i * 3) + 1) from nI_add _ _]
              refine gz_iald hx hb hK hP 0 m5 rfl (by omega) (by omega) d_Mo_policy_96 ?_
              rw [show ml ((i * 3) + 1) = lw i 1 from relU_l hRU (by omega) (p := 1) (by decide)]
              have b_11 := hU.2 i 1
              refine lv_aload_n hx hb d_Mo_policy_97 rfl (lv_at hl 0 rfl) ?_
              refine gm_get (C := R_Mo) (T := F_Mo) (n := 44) hx hb htl i_Mo hown hK hP eh rfl 7 (by decide) (htl _ k_750) (fun _ h => h) rfl d_Mo_policy_98 ?_
              refine lv_iload hx hb d_Mo_policy_101 (lv_at hl 6 rfl) ?_
              refine lv_iconst (v := nI 3) hx hb d_Mo_policy_103 (by decide) ?_
              refine lv_imul hx hb d_Mo_policy_104 ?_
              rw [show (nI i) * (nI 3) = nI (i * 3) from pk_mul _ _]
              refine lv_iconst (v := nI 1) hx hb d_Mo_policy_105 (by decide) ?_
              refine lv_iadd hx hb d_Mo_policy_106 ?_
              rw [show (nI (i * 3)) + (nI 1) = nI ((i * 3) + 1) from nI_add _ _]
              refine gz_iald hx hb hK hP 0 m6 rfl (by omega) (by omega) d_Mo_policy_107 ?_
              rw [show mh ((i * 3) + 1) = hw i 1 from relU_h hRU (by omega) (p := 1) (by decide)]
              have b_12 := hU.2 i 1
              refine gc_S (n := 3) [.int (nI ta0), .int (nI (lw i 1)), .int (nI (hw i 1))] [] hx hb hml hown hts hK hN hX hP hS (c_Mo_fits (by omega) (by omega) (by omega)) k_983 k_984 k_10 k_985 (by decide +kernel) ⟨by decide, by decide⟩ rfl hl.1 rfl (Nat.le_of_ble_eq_true rfl) d_Mo_policy_108 ⟨by decide, by decide⟩ (fun r N1 M_13 H locs hw hP hS => ?_)
              obtain ⟨rfl, hw⟩ := hw
              rcases hw with ⟨c_14, rfl, rfl⟩ | ⟨c_15, rfl, rfl⟩
              · skip
                refine W.eq (g2 := F0 m 111 ls [.int (nI 1)]) rfl ?_
                refine lv_if_ne (tgt := 117) hx hb d_Mo_policy_111 (by decide) (fun _ => ?_) (fun q => absurd q (by decide))
                refine lv_iload hx hb d_Mo_policy_117 (lv_at hl 5 rfl) ?_
                refine lv_aload_n hx hb d_Mo_policy_119 rfl (lv_at hl 0 rfl) ?_
                refine gm_get (C := R_Mo) (T := F_Mo) (n := 44) hx hb htl i_Mo hown hK hP eh rfl 6 (by decide) (htl _ k_749) (fun _ h => h) rfl d_Mo_policy_120 ?_
                refine lv_iload hx hb d_Mo_policy_123 (lv_at hl 6 rfl) ?_
                refine lv_iconst (v := nI 3) hx hb d_Mo_policy_125 (by decide) ?_
                refine lv_imul hx hb d_Mo_policy_126 ?_
                rw [show (nI i) * (nI 3) = nI (i * 3) from pk_mul _ _]
                refine lv_iconst (v := nI 2) hx hb d_Mo_policy_127 (by decide) ?_
                refine lv_iadd hx hb d_Mo_policy_128 ?_
                rw [show (nI (i * 3)) + (nI 2) = nI ((i * 3) + 2) from nI_add _ _]
                refine gz_iald hx hb hK hP 0 m5 rfl (by omega) (by omega) d_Mo_policy_129 ?_
                rw [show ml ((i * 3) + 2) = lw i 2 from relU_l hRU (by omega) (p := 2) (by decide)]
                have b_16 := hU.2 i 2
                refine lv_aload_n hx hb d_Mo_policy_130 rfl (lv_at hl 0 rfl) ?_
                refine gm_get (C := R_Mo) (T := F_Mo) (n := 44) hx hb htl i_Mo hown hK hP eh rfl 7 (by decide) (htl _ k_750) (fun _ h => h) rfl d_Mo_policy_131 ?_
                refine lv_iload hx hb d_Mo_policy_134 (lv_at hl 6 rfl) ?_
                refine lv_iconst (v := nI 3) hx hb d_Mo_policy_136 (by decide) ?_
                refine lv_imul hx hb d_Mo_policy_137 ?_
                rw [show (nI i) * (nI 3) = nI (i * 3) from pk_mul _ _]
                refine lv_iconst (v := nI 2) hx hb d_Mo_policy_138 (by decide) ?_
                refine lv_iadd hx hb d_Mo_policy_139 ?_
                rw [show (nI (i * 3)) + (nI 2) = nI ((i * 3) + 2) from nI_add _ _]
                refine gz_iald hx hb hK hP 0 m6 rfl (by omega) (by omega) d_Mo_policy_140 ?_
                rw [show mh ((i * 3) + 2) = hw i 2 from relU_h hRU (by omega) (p := 2) (by decide)]
                have b_17 := hU.2 i 2
                refine gc_S (n := 3) [.int (nI tp0), .int (nI (lw i 2)), .int (nI (hw i 2))] [] hx hb hml hown hts hK hN hX hP hS (c_Mo_fits (by omega) (by omega) (by omega)) k_983 k_984 k_10 k_985 (by decide +kernel) ⟨by decide, by decide⟩ rfl hl.1 rfl (Nat.le_of_ble_eq_true rfl) d_Mo_policy_141 ⟨by decide, by decide⟩ (fun r N1 M_18 H locs hw hP hS => ?_)
                obtain ⟨rfl, hw⟩ := hw
                rcases hw with ⟨c_19, rfl, rfl⟩ | ⟨c_20, rfl, rfl⟩
                · skip
                  refine W.eq (g2 := F0 m 144 ls [.int (nI 1)]) rfl ?_
                  refine lv_if_eq (tgt := 155) hx hb d_Mo_policy_144 (by decide) (fun q => absurd q (by decide)) (fun _ => ?_)
                  refine lv_aload_n hx hb d_Mo_policy_147 rfl (lv_at hl 0 rfl) ?_
                  refine gm_get (C := R_Mo) (T := F_Mo) (n := 44) hx hb htl i_Mo hown hK hP eh rfl 3 (by decide) (htl _ k_746) (fun _ h => h) rfl d_Mo_policy_148 ?_
                  refine lv_iload hx hb d_Mo_policy_151 (lv_at hl 6 rfl) ?_
                  refine gz_iald hx hb hK hP 0 m2 rfl (by omega) (by omega) d_Mo_policy_153 ?_
                  rw [show ma i = ru i 0 from (hRU i (by omega)).1]
                  have b_21 := hU.1 i (by omega)
                  rw [← hQ]
                  exact gc_iret hx hb hr hlk hP hS d_Mo_policy_154 ⟨rfl, ru i 0, Or.inl ⟨i, by omega, by unfold mat; omega, hno, rfl⟩, rfl, rfl⟩
                · skip
                  refine W.eq (g2 := F0 m 144 ls [.int (nI 0)]) rfl ?_
                  refine lv_if_eq (tgt := 155) hx hb d_Mo_policy_144 (by decide) (fun _ => ?_) (fun q => absurd q (by decide))
                  refine lv_iinc (v := nI (i + 1)) (lv' := [(6, .int (nI (i + 1))), (0, .ref h), (1, .int (nI d0)), (2, .int (nI pr0)), (3, .int (nI sa0)), (4, .int (nI ta0)), (5, .int (nI tp0))]) hx hb d_Mo_policy_155 hl (k := 6) rfl (nI_1 i) (by decide) rfl (fun ls hl => ?_)
                  refine lv_goto (tgt := 3) hx hb d_Mo_policy_158 (by decide) ?_
                  exact ih_3 (i + 1) ls _ _ (by omega) (fun j hj => by by_cases z : j = i; subst z; unfold mat; omega; exact hno j (by omega)) (by omega) hP hS (lv_sub hl [1, 2, 3, 4, 5, 6, 0] rfl)
              · skip
                refine W.eq (g2 := F0 m 111 ls [.int (nI 0)]) rfl ?_
                refine lv_if_ne (tgt := 117) hx hb d_Mo_policy_111 (by decide) (fun q => absurd q (by decide)) (fun _ => ?_)
                refine lv_goto (tgt := 155) hx hb d_Mo_policy_114 (by decide) ?_
                refine lv_iinc (v := nI (i + 1)) (lv' := [(6, .int (nI (i + 1))), (0, .ref h), (1, .int (nI d0)), (2, .int (nI pr0)), (3, .int (nI sa0)), (4, .int (nI ta0)), (5, .int (nI tp0))]) hx hb d_Mo_policy_155 hl (k := 6) rfl (nI_1 i) (by decide) rfl (fun ls hl => ?_)
                refine lv_goto (tgt := 3) hx hb d_Mo_policy_158 (by decide) ?_
                exact ih_3 (i + 1) ls _ _ (by omega) (fun j hj => by by_cases z : j = i; subst z; unfold mat; omega; exact hno j (by omega)) (by omega) hP hS (lv_sub hl [1, 2, 3, 4, 5, 6, 0] rfl)
            · skip
              refine W.eq (g2 := F0 m 81 ls [.int (nI 0)]) rfl ?_
              refine lv_if_eq (tgt := 155) hx hb d_Mo_policy_81 (by decide) (fun _ => ?_) (fun q => absurd q (by decide))
              refine lv_iinc (v := nI (i + 1)) (lv' := [(6, .int (nI (i + 1))), (0, .ref h), (1, .int (nI d0)), (2, .int (nI pr0)), (3, .int (nI sa0)), (4, .int (nI ta0)), (5, .int (nI tp0))]) hx hb d_Mo_policy_155 hl (k := 6) rfl (nI_1 i) (by decide) rfl (fun ls hl => ?_)
              refine lv_goto (tgt := 3) hx hb d_Mo_policy_158 (by decide) ?_
              exact ih_3 (i + 1) ls _ _ (by omega) (fun j hj => by by_cases z : j = i; subst z; unfold mat; omega; exact hno j (by omega)) (by omega) hP hS (lv_sub hl [1, 2, 3, 4, 5, 6, 0] rfl)
          · skip
            refine lv_aload_n hx hb d_Mo_policy_45 rfl (lv_at hl 0 rfl) ?_
            refine gm_get (C := R_Mo) (T := F_Mo) (n := 44) hx hb htl i_Mo hown hK hP eh rfl 5 (by decide) (htl _ k_748) (fun _ h => h) rfl d_Mo_policy_46 ?_
            refine lv_iload hx hb d_Mo_policy_49 (lv_at hl 6 rfl) ?_
            refine gz_iald hx hb hK hP 0 m4 rfl (by omega) (by omega) d_Mo_policy_51 ?_
            rw [show mp i = ru i 2 from (hRU i (by omega)).2.2.1]
            have b_22 := hU.1 i (by omega)
            refine lv_iload_n hx hb d_Mo_policy_52 rfl (lv_at hl 2 rfl) ?_
            refine ln_eq (tgt := 59) hx hb d_Mo_policy_53 (by decide) (by omega) (by omega) (fun c_23 => ?_) (fun c_23 => ?_)
            · skip
              refine lv_iload_n hx hb d_Mo_policy_59 rfl (lv_at hl 3 rfl) ?_
              refine lv_aload_n hx hb d_Mo_policy_60 rfl (lv_at hl 0 rfl) ?_
              refine gm_get (C := R_Mo) (T := F_Mo) (n := 44) hx hb htl i_Mo hown hK hP eh rfl 6 (by decide) (htl _ k_749) (fun _ h => h) rfl d_Mo_policy_61 ?_
              refine lv_iload hx hb d_Mo_policy_64 (lv_at hl 6 rfl) ?_
              refine lv_iconst (v := nI 3) hx hb d_Mo_policy_66 (by decide) ?_
              refine lv_imul hx hb d_Mo_policy_67 ?_
              rw [show (nI i) * (nI 3) = nI (i * 3) from pk_mul _ _]
              refine gz_iald hx hb hK hP 0 m5 rfl (by omega) (by omega) d_Mo_policy_68 ?_
              rw [show ml (i * 3) = lw i 0 from relU_l hRU (by omega) (p := 0) (by decide)]
              have b_24 := hU.2 i 0
              refine lv_aload_n hx hb d_Mo_policy_69 rfl (lv_at hl 0 rfl) ?_
              refine gm_get (C := R_Mo) (T := F_Mo) (n := 44) hx hb htl i_Mo hown hK hP eh rfl 7 (by decide) (htl _ k_750) (fun _ h => h) rfl d_Mo_policy_70 ?_
              refine lv_iload hx hb d_Mo_policy_73 (lv_at hl 6 rfl) ?_
              refine lv_iconst (v := nI 3) hx hb d_Mo_policy_75 (by decide) ?_
              refine lv_imul hx hb d_Mo_policy_76 ?_
              rw [show (nI i) * (nI 3) = nI (i * 3) from pk_mul _ _]
              refine gz_iald hx hb hK hP 0 m6 rfl (by omega) (by omega) d_Mo_policy_77 ?_
              rw [show mh (i * 3) = hw i 0 from relU_h hRU (by omega) (p := 0) (by decide)]
              have b_25 := hU.2 i 0
              refine gc_S (n := 3) [.int (nI sa0), .int (nI (lw i 0)), .int (nI (hw i 0))] [] hx hb hml hown hts hK hN hX hP hS (c_Mo_fits (by omega) (by omega) (by omega)) k_983 k_984 k_10 k_985 (by decide +kernel) ⟨by decide, by decide⟩ rfl hl.1 rfl (Nat.le_of_ble_eq_true rfl) d_Mo_policy_78 ⟨by decide, by decide⟩ (fun r N1 M_26 H locs hw hP hS => ?_)
              obtain ⟨rfl, hw⟩ := hw
              rcases hw with ⟨c_27, rfl, rfl⟩ | ⟨c_28, rfl, rfl⟩
              · skip
                refine W.eq (g2 := F0 m 81 ls [.int (nI 1)]) rfl ?_
                refine lv_if_eq (tgt := 155) hx hb d_Mo_policy_81 (by decide) (fun q => absurd q (by decide)) (fun _ => ?_)
                refine lv_iload hx hb d_Mo_policy_84 (lv_at hl 4 rfl) ?_
                refine lv_aload_n hx hb d_Mo_policy_86 rfl (lv_at hl 0 rfl) ?_
                refine gm_get (C := R_Mo) (T := F_Mo) (n := 44) hx hb htl i_Mo hown hK hP eh rfl 6 (by decide) (htl _ k_749) (fun _ h => h) rfl d_Mo_policy_87 ?_
                refine lv_iload hx hb d_Mo_policy_90 (lv_at hl 6 rfl) ?_
                refine lv_iconst (v := nI 3) hx hb d_Mo_policy_92 (by decide) ?_
                refine lv_imul hx hb d_Mo_policy_93 ?_
                rw [show (nI i) * (nI 3) = nI (i * 3) from pk_mul _ _]
                refine lv_iconst (v := nI 1) hx hb d_Mo_policy_94 (by decide) ?_
                refine lv_iadd hx hb d_Mo_policy_95 ?_
                rw [show (nI (i * 3)) + (nI 1) = nI ((i * 3) + 1) from nI_add _ _]
                refine gz_iald hx hb hK hP 0 m5 rfl (by omega) (by omega) d_Mo_policy_96 ?_
                rw [show ml ((i * 3) + 1) = lw i 1 from relU_l hRU (by omega) (p := 1) (by decide)]
                have b_29 := hU.2 i 1
                refine lv_aload_n hx hb d_Mo_policy_97 rfl (lv_at hl 0 rfl) ?_
                refine gm_get (C := R_Mo) (T := F_Mo) (n := 44) hx hb htl i_Mo hown hK hP eh rfl 7 (by decide) (htl _ k_750) (fun _ h => h) rfl d_Mo_policy_98 ?_
                refine lv_iload hx hb d_Mo_policy_101 (lv_at hl 6 rfl) ?_
                refine lv_iconst (v := nI 3) hx hb d_Mo_policy_103 (by decide) ?_
                refine lv_imul hx hb d_Mo_policy_104 ?_
                rw [show (nI i) * (nI 3) = nI (i * 3) from pk_mul _ _]
                refine lv_iconst (v := nI 1) hx hb d_Mo_policy_105 (by decide) ?_
                refine lv_iadd hx hb d_Mo_policy_106 ?_
                rw [show (nI (i * 3)) + (nI 1) = nI ((i * 3) + 1) from nI_add _ _]
                refine gz_iald hx hb hK hP 0 m6 rfl (by omega) (by omega) d_Mo_policy_107 ?_
                rw [show mh ((i * 3) + 1) = hw i 1 from relU_h hRU (by omega) (p := 1) (by decide)]
                have b_30 := hU.2 i 1
                refine gc_S (n := 3) [.int (nI ta0), .int (nI (lw i 1)), .int (nI (hw i 1))] [] hx hb hml hown hts hK hN hX hP hS (c_Mo_fits (by omega) (by omega) (by omega)) k_983 k_984 k_10 k_985 (by decide +kernel) ⟨by decide, by decide⟩ rfl hl.1 rfl (Nat.le_of_ble_eq_true rfl) d_Mo_policy_108 ⟨by decide, by decide⟩ (fun r N1 M_31 H locs hw hP hS => ?_)
                obtain ⟨rfl, hw⟩ := hw
                rcases hw with ⟨c_32, rfl, rfl⟩ | ⟨c_33, rfl, rfl⟩
                · skip
                  refine W.eq (g2 := F0 m 111 ls [.int (nI 1)]) rfl ?_
                  refine lv_if_ne (tgt := 117) hx hb d_Mo_policy_111 (by decide) (fun _ => ?_) (fun q => absurd q (by decide))
                  refine lv_iload hx hb d_Mo_policy_117 (lv_at hl 5 rfl) ?_
                  refine lv_aload_n hx hb d_Mo_policy_119 rfl (lv_at hl 0 rfl) ?_
                  refine gm_get (C := R_Mo) (T := F_Mo) (n := 44) hx hb htl i_Mo hown hK hP eh rfl 6 (by decide) (htl _ k_749) (fun _ h => h) rfl d_Mo_policy_120 ?_
                  refine lv_iload hx hb d_Mo_policy_123 (lv_at hl 6 rfl) ?_
                  refine lv_iconst (v := nI 3) hx hb d_Mo_policy_125 (by decide) ?_
                  refine lv_imul hx hb d_Mo_policy_126 ?_
                  rw [show (nI i) * (nI 3) = nI (i * 3) from pk_mul _ _]
                  refine lv_iconst (v := nI 2) hx hb d_Mo_policy_127 (by decide) ?_
                  refine lv_iadd hx hb d_Mo_policy_128 ?_
                  rw [show (nI (i * 3)) + (nI 2) = nI ((i * 3) + 2) from nI_add _ _]
                  refine gz_iald hx hb hK hP 0 m5 rfl (by omega) (by omega) d_Mo_policy_129 ?_
                  rw [show ml ((i * 3) + 2) = lw i 2 from relU_l hRU (by omega) (p := 2) (by decide)]
                  have b_34 := hU.2 i 2
                  refine lv_aload_n hx hb d_Mo_policy_130 rfl (lv_at hl 0 rfl) ?_
                  refine gm_get (C := R_Mo) (T := F_Mo) (n := 44) hx hb htl i_Mo hown hK hP eh rfl 7 (by decide) (htl _ k_750) (fun _ h => h) rfl d_Mo_policy_131 ?_
                  refine lv_iload hx hb d_Mo_policy_134 (lv_at hl 6 rfl) ?_
                  refine lv_iconst (v := nI 3) hx hb d_Mo_policy_136 (by decide) ?_
                  refine lv_imul hx hb d_Mo_policy_137 ?_
                  rw [show (nI i) * (nI 3) = nI (i * 3) from pk_mul _ _]
                  refine lv_iconst (v := nI 2) hx hb d_Mo_policy_138 (by decide) ?_
                  refine lv_iadd hx hb d_Mo_policy_139 ?_
                  rw [show (nI (i * 3)) + (nI 2) = nI ((i * 3) + 2) from nI_add _ _]
                  refine gz_iald hx hb hK hP 0 m6 rfl (by omega) (by omega) d_Mo_policy_140 ?_
                  rw [show mh ((i * 3) + 2) = hw i 2 from relU_h hRU (by omega) (p := 2) (by decide)]
                  have b_35 := hU.2 i 2
                  refine gc_S (n := 3) [.int (nI tp0), .int (nI (lw i 2)), .int (nI (hw i 2))] [] hx hb hml hown hts hK hN hX hP hS (c_Mo_fits (by omega) (by omega) (by omega)) k_983 k_984 k_10 k_985 (by decide +kernel) ⟨by decide, by decide⟩ rfl hl.1 rfl (Nat.le_of_ble_eq_true rfl) d_Mo_policy_141 ⟨by decide, by decide⟩ (fun r N1 M_36 H locs hw hP hS => ?_)
                  obtain ⟨rfl, hw⟩ := hw
                  rcases hw with ⟨c_37, rfl, rfl⟩ | ⟨c_38, rfl, rfl⟩
                  · skip
                    refine W.eq (g2 := F0 m 144 ls [.int (nI 1)]) rfl ?_
                    refine lv_if_eq (tgt := 155) hx hb d_Mo_policy_144 (by decide) (fun q => absurd q (by decide)) (fun _ => ?_)
                    refine lv_aload_n hx hb d_Mo_policy_147 rfl (lv_at hl 0 rfl) ?_
                    refine gm_get (C := R_Mo) (T := F_Mo) (n := 44) hx hb htl i_Mo hown hK hP eh rfl 3 (by decide) (htl _ k_746) (fun _ h => h) rfl d_Mo_policy_148 ?_
                    refine lv_iload hx hb d_Mo_policy_151 (lv_at hl 6 rfl) ?_
                    refine gz_iald hx hb hK hP 0 m2 rfl (by omega) (by omega) d_Mo_policy_153 ?_
                    rw [show ma i = ru i 0 from (hRU i (by omega)).1]
                    have b_39 := hU.1 i (by omega)
                    rw [← hQ]
                    exact gc_iret hx hb hr hlk hP hS d_Mo_policy_154 ⟨rfl, ru i 0, Or.inl ⟨i, by omega, by unfold mat; omega, hno, rfl⟩, rfl, rfl⟩
                  · skip
                    refine W.eq (g2 := F0 m 144 ls [.int (nI 0)]) rfl ?_
                    refine lv_if_eq (tgt := 155) hx hb d_Mo_policy_144 (by decide) (fun _ => ?_) (fun q => absurd q (by decide))
                    refine lv_iinc (v := nI (i + 1)) (lv' := [(6, .int (nI (i + 1))), (0, .ref h), (1, .int (nI d0)), (2, .int (nI pr0)), (3, .int (nI sa0)), (4, .int (nI ta0)), (5, .int (nI tp0))]) hx hb d_Mo_policy_155 hl (k := 6) rfl (nI_1 i) (by decide) rfl (fun ls hl => ?_)
                    refine lv_goto (tgt := 3) hx hb d_Mo_policy_158 (by decide) ?_
                    exact ih_3 (i + 1) ls _ _ (by omega) (fun j hj => by by_cases z : j = i; subst z; unfold mat; omega; exact hno j (by omega)) (by omega) hP hS (lv_sub hl [1, 2, 3, 4, 5, 6, 0] rfl)
                · skip
                  refine W.eq (g2 := F0 m 111 ls [.int (nI 0)]) rfl ?_
                  refine lv_if_ne (tgt := 117) hx hb d_Mo_policy_111 (by decide) (fun q => absurd q (by decide)) (fun _ => ?_)
                  refine lv_goto (tgt := 155) hx hb d_Mo_policy_114 (by decide) ?_
                  refine lv_iinc (v := nI (i + 1)) (lv' := [(6, .int (nI (i + 1))), (0, .ref h), (1, .int (nI d0)), (2, .int (nI pr0)), (3, .int (nI sa0)), (4, .int (nI ta0)), (5, .int (nI tp0))]) hx hb d_Mo_policy_155 hl (k := 6) rfl (nI_1 i) (by decide) rfl (fun ls hl => ?_)
                  refine lv_goto (tgt := 3) hx hb d_Mo_policy_158 (by decide) ?_
                  exact ih_3 (i + 1) ls _ _ (by omega) (fun j hj => by by_cases z : j = i; subst z; unfold mat; omega; exact hno j (by omega)) (by omega) hP hS (lv_sub hl [1, 2, 3, 4, 5, 6, 0] rfl)
              · skip
                refine W.eq (g2 := F0 m 81 ls [.int (nI 0)]) rfl ?_
                refine lv_if_eq (tgt := 155) hx hb d_Mo_policy_81 (by decide) (fun _ => ?_) (fun q => absurd q (by decide))
                refine lv_iinc (v := nI (i + 1)) (lv' := [(6, .int (nI (i + 1))), (0, .ref h), (1, .int (nI d0)), (2, .int (nI pr0)), (3, .int (nI sa0)), (4, .int (nI ta0)), (5, .int (nI tp0))]) hx hb d_Mo_policy_155 hl (k := 6) rfl (nI_1 i) (by decide) rfl (fun ls hl => ?_)
                refine lv_goto (tgt := 3) hx hb d_Mo_policy_158 (by decide) ?_
                exact ih_3 (i + 1) ls _ _ (by omega) (fun j hj => by by_cases z : j = i; subst z; unfold mat; omega; exact hno j (by omega)) (by omega) hP hS (lv_sub hl [1, 2, 3, 4, 5, 6, 0] rfl)
            · skip
              refine lv_goto (tgt := 155) hx hb d_Mo_policy_56 (by decide) ?_
              refine lv_iinc (v := nI (i + 1)) (lv' := [(6, .int (nI (i + 1))), (0, .ref h), (1, .int (nI d0)), (2, .int (nI pr0)), (3, .int (nI sa0)), (4, .int (nI ta0)), (5, .int (nI tp0))]) hx hb d_Mo_policy_155 hl (k := 6) rfl (nI_1 i) (by decide) rfl (fun ls hl => ?_)
              refine lv_goto (tgt := 3) hx hb d_Mo_policy_158 (by decide) ?_
              exact ih_3 (i + 1) ls _ _ (by omega) (fun j hj => by by_cases z : j = i; subst z; unfold mat; omega; exact hno j (by omega)) (by omega) hP hS (lv_sub hl [1, 2, 3, 4, 5, 6, 0] rfl)
        · skip
          refine lv_aload_n hx hb d_Mo_policy_23 rfl (lv_at hl 0 rfl) ?_
          refine gm_get (C := R_Mo) (T := F_Mo) (n := 44) hx hb htl i_Mo hown hK hP eh rfl 4 (by decide) (htl _ k_747) (fun _ h => h) rfl d_Mo_policy_24 ?_
          refine lv_iload hx hb d_Mo_policy_27 (lv_at hl 6 rfl) ?_
          refine gz_iald hx hb hK hP 0 m3 rfl (by omega) (by omega) d_Mo_policy_29 ?_
          rw [show mw i = ru i 1 from (hRU i (by omega)).2.1]
          have b_40 := hU.1 i (by omega)
          refine lv_iload_n hx hb d_Mo_policy_30 rfl (lv_at hl 1 rfl) ?_
          refine ln_ne (tgt := 155) hx hb d_Mo_policy_31 (by decide) (by omega) (by omega) (fun c_41 => ?_) (fun c_41 => ?_)
          · skip
            refine lv_iinc (v := nI (i + 1)) (lv' := [(6, .int (nI (i + 1))), (0, .ref h), (1, .int (nI d0)), (2, .int (nI pr0)), (3, .int (nI sa0)), (4, .int (nI ta0)), (5, .int (nI tp0))]) hx hb d_Mo_policy_155 hl (k := 6) rfl (nI_1 i) (by decide) rfl (fun ls hl => ?_)
            refine lv_goto (tgt := 3) hx hb d_Mo_policy_158 (by decide) ?_
            exact ih_3 (i + 1) ls _ _ (by omega) (fun j hj => by by_cases z : j = i; subst z; unfold mat; omega; exact hno j (by omega)) (by omega) hP hS (lv_sub hl [1, 2, 3, 4, 5, 6, 0] rfl)
          · skip
            refine lv_aload_n hx hb d_Mo_policy_34 rfl (lv_at hl 0 rfl) ?_
            refine gm_get (C := R_Mo) (T := F_Mo) (n := 44) hx hb htl i_Mo hown hK hP eh rfl 5 (by decide) (htl _ k_748) (fun _ h => h) rfl d_Mo_policy_35 ?_
            refine lv_iload hx hb d_Mo_policy_38 (lv_at hl 6 rfl) ?_
            refine gz_iald hx hb hK hP 0 m4 rfl (by omega) (by omega) d_Mo_policy_40 ?_
            rw [show mp i = ru i 2 from (hRU i (by omega)).2.2.1]
            have b_42 := hU.1 i (by omega)
            refine lv_iconst (v := nI 3) hx hb d_Mo_policy_41 (by decide) ?_
            refine ln_eq (tgt := 59) hx hb d_Mo_policy_42 (by decide) (by omega) (by omega) (fun c_43 => ?_) (fun c_43 => ?_)
            · skip
              refine lv_iload_n hx hb d_Mo_policy_59 rfl (lv_at hl 3 rfl) ?_
              refine lv_aload_n hx hb d_Mo_policy_60 rfl (lv_at hl 0 rfl) ?_
              refine gm_get (C := R_Mo) (T := F_Mo) (n := 44) hx hb htl i_Mo hown hK hP eh rfl 6 (by decide) (htl _ k_749) (fun _ h => h) rfl d_Mo_policy_61 ?_
              refine lv_iload hx hb d_Mo_policy_64 (lv_at hl 6 rfl) ?_
              refine lv_iconst (v := nI 3) hx hb d_Mo_policy_66 (by decide) ?_
              refine lv_imul hx hb d_Mo_policy_67 ?_
              rw [show (nI i) * (nI 3) = nI (i * 3) from pk_mul _ _]
              refine gz_iald hx hb hK hP 0 m5 rfl (by omega) (by omega) d_Mo_policy_68 ?_
              rw [show ml (i * 3) = lw i 0 from relU_l hRU (by omega) (p := 0) (by decide)]
              have b_44 := hU.2 i 0
              refine lv_aload_n hx hb d_Mo_policy_69 rfl (lv_at hl 0 rfl) ?_
              refine gm_get (C := R_Mo) (T := F_Mo) (n := 44) hx hb htl i_Mo hown hK hP eh rfl 7 (by decide) (htl _ k_750) (fun _ h => h) rfl d_Mo_policy_70 ?_
              refine lv_iload hx hb d_Mo_policy_73 (lv_at hl 6 rfl) ?_
              refine lv_iconst (v := nI 3) hx hb d_Mo_policy_75 (by decide) ?_
              refine lv_imul hx hb d_Mo_policy_76 ?_
              rw [show (nI i) * (nI 3) = nI (i * 3) from pk_mul _ _]
              refine gz_iald hx hb hK hP 0 m6 rfl (by omega) (by omega) d_Mo_policy_77 ?_
              rw [show mh (i * 3) = hw i 0 from relU_h hRU (by omega) (p := 0) (by decide)]
              have b_45 := hU.2 i 0
              refine gc_S (n := 3) [.int (nI sa0), .int (nI (lw i 0)), .int (nI (hw i 0))] [] hx hb hml hown hts hK hN hX hP hS (c_Mo_fits (by omega) (by omega) (by omega)) k_983 k_984 k_10 k_985 (by decide +kernel) ⟨by decide, by decide⟩ rfl hl.1 rfl (Nat.le_of_ble_eq_true rfl) d_Mo_policy_78 ⟨by decide, by decide⟩ (fun r N1 M_46 H locs hw hP hS => ?_)
              obtain ⟨rfl, hw⟩ := hw
              rcases hw with ⟨c_47, rfl, rfl⟩ | ⟨c_48, rfl, rfl⟩
              · skip
                refine W.eq (g2 := F0 m 81 ls [.int (nI 1)]) rfl ?_
                refine lv_if_eq (tgt := 155) hx hb d_Mo_policy_81 (by decide) (fun q => absurd q (by decide)) (fun _ => ?_)
                refine lv_iload hx hb d_Mo_policy_84 (lv_at hl 4 rfl) ?_
                refine lv_aload_n hx hb d_Mo_policy_86 rfl (lv_at hl 0 rfl) ?_
                refine gm_get (C := R_Mo) (T := F_Mo) (n := 44) hx hb htl i_Mo hown hK hP eh rfl 6 (by decide) (htl _ k_749) (fun _ h => h) rfl d_Mo_policy_87 ?_
                refine lv_iload hx hb d_Mo_policy_90 (lv_at hl 6 rfl) ?_
                refine lv_iconst (v := nI 3) hx hb d_Mo_policy_92 (by decide) ?_
                refine lv_imul hx hb d_Mo_policy_93 ?_
                rw [show (nI i) * (nI 3) = nI (i * 3) from pk_mul _ _]
                refine lv_iconst (v := nI 1) hx hb d_Mo_policy_94 (by decide) ?_
                refine lv_iadd hx hb d_Mo_policy_95 ?_
                rw [show (nI (i * 3)) + (nI 1) = nI ((i * 3) + 1) from nI_add _ _]
                refine gz_iald hx hb hK hP 0 m5 rfl (by omega) (by omega) d_Mo_policy_96 ?_
                rw [show ml ((i * 3) + 1) = lw i 1 from relU_l hRU (by omega) (p := 1) (by decide)]
                have b_49 := hU.2 i 1
                refine lv_aload_n hx hb d_Mo_policy_97 rfl (lv_at hl 0 rfl) ?_
                refine gm_get (C := R_Mo) (T := F_Mo) (n := 44) hx hb htl i_Mo hown hK hP eh rfl 7 (by decide) (htl _ k_750) (fun _ h => h) rfl d_Mo_policy_98 ?_
                refine lv_iload hx hb d_Mo_policy_101 (lv_at hl 6 rfl) ?_
                refine lv_iconst (v := nI 3) hx hb d_Mo_policy_103 (by decide) ?_
                refine lv_imul hx hb d_Mo_policy_104 ?_
                rw [show (nI i) * (nI 3) = nI (i * 3) from pk_mul _ _]
                refine lv_iconst (v := nI 1) hx hb d_Mo_policy_105 (by decide) ?_
                refine lv_iadd hx hb d_Mo_policy_106 ?_
                rw [show (nI (i * 3)) + (nI 1) = nI ((i * 3) + 1) from nI_add _ _]
                refine gz_iald hx hb hK hP 0 m6 rfl (by omega) (by omega) d_Mo_policy_107 ?_
                rw [show mh ((i * 3) + 1) = hw i 1 from relU_h hRU (by omega) (p := 1) (by decide)]
                have b_50 := hU.2 i 1
                refine gc_S (n := 3) [.int (nI ta0), .int (nI (lw i 1)), .int (nI (hw i 1))] [] hx hb hml hown hts hK hN hX hP hS (c_Mo_fits (by omega) (by omega) (by omega)) k_983 k_984 k_10 k_985 (by decide +kernel) ⟨by decide, by decide⟩ rfl hl.1 rfl (Nat.le_of_ble_eq_true rfl) d_Mo_policy_108 ⟨by decide, by decide⟩ (fun r N1 M_51 H locs hw hP hS => ?_)
                obtain ⟨rfl, hw⟩ := hw
                rcases hw with ⟨c_52, rfl, rfl⟩ | ⟨c_53, rfl, rfl⟩
                · skip
                  refine W.eq (g2 := F0 m 111 ls [.int (nI 1)]) rfl ?_
                  refine lv_if_ne (tgt := 117) hx hb d_Mo_policy_111 (by decide) (fun _ => ?_) (fun q => absurd q (by decide))
                  refine lv_iload hx hb d_Mo_policy_117 (lv_at hl 5 rfl) ?_
                  refine lv_aload_n hx hb d_Mo_policy_119 rfl (lv_at hl 0 rfl) ?_
                  refine gm_get (C := R_Mo) (T := F_Mo) (n := 44) hx hb htl i_Mo hown hK hP eh rfl 6 (by decide) (htl _ k_749) (fun _ h => h) rfl d_Mo_policy_120 ?_
                  refine lv_iload hx hb d_Mo_policy_123 (lv_at hl 6 rfl) ?_
                  refine lv_iconst (v := nI 3) hx hb d_Mo_policy_125 (by decide) ?_
                  refine lv_imul hx hb d_Mo_policy_126 ?_
                  rw [show (nI i) * (nI 3) = nI (i * 3) from pk_mul _ _]
                  refine lv_iconst (v := nI 2) hx hb d_Mo_policy_127 (by decide) ?_
                  refine lv_iadd hx hb d_Mo_policy_128 ?_
                  rw [show (nI (i * 3)) + (nI 2) = nI ((i * 3) + 2) from nI_add _ _]
                  refine gz_iald hx hb hK hP 0 m5 rfl (by omega) (by omega) d_Mo_policy_129 ?_
                  rw [show ml ((i * 3) + 2) = lw i 2 from relU_l hRU (by omega) (p := 2) (by decide)]
                  have b_54 := hU.2 i 2
                  refine lv_aload_n hx hb d_Mo_policy_130 rfl (lv_at hl 0 rfl) ?_
                  refine gm_get (C := R_Mo) (T := F_Mo) (n := 44) hx hb htl i_Mo hown hK hP eh rfl 7 (by decide) (htl _ k_750) (fun _ h => h) rfl d_Mo_policy_131 ?_
                  refine lv_iload hx hb d_Mo_policy_134 (lv_at hl 6 rfl) ?_
                  refine lv_iconst (v := nI 3) hx hb d_Mo_policy_136 (by decide) ?_
                  refine lv_imul hx hb d_Mo_policy_137 ?_
                  rw [show (nI i) * (nI 3) = nI (i * 3) from pk_mul _ _]
                  refine lv_iconst (v := nI 2) hx hb d_Mo_policy_138 (by decide) ?_
                  refine lv_iadd hx hb d_Mo_policy_139 ?_
                  rw [show (nI (i * 3)) + (nI 2) = nI ((i * 3) + 2) from nI_add _ _]
                  refine gz_iald hx hb hK hP 0 m6 rfl (by omega) (by omega) d_Mo_policy_140 ?_
                  rw [show mh ((i * 3) + 2) = hw i 2 from relU_h hRU (by omega) (p := 2) (by decide)]
                  have b_55 := hU.2 i 2
                  refine gc_S (n := 3) [.int (nI tp0), .int (nI (lw i 2)), .int (nI (hw i 2))] [] hx hb hml hown hts hK hN hX hP hS (c_Mo_fits (by omega) (by omega) (by omega)) k_983 k_984 k_10 k_985 (by decide +kernel) ⟨by decide, by decide⟩ rfl hl.1 rfl (Nat.le_of_ble_eq_true rfl) d_Mo_policy_141 ⟨by decide, by decide⟩ (fun r N1 M_56 H locs hw hP hS => ?_)
                  obtain ⟨rfl, hw⟩ := hw
                  rcases hw with ⟨c_57, rfl, rfl⟩ | ⟨c_58, rfl, rfl⟩
                  · skip
                    refine W.eq (g2 := F0 m 144 ls [.int (nI 1)]) rfl ?_
                    refine lv_if_eq (tgt := 155) hx hb d_Mo_policy_144 (by decide) (fun q => absurd q (by decide)) (fun _ => ?_)
                    refine lv_aload_n hx hb d_Mo_policy_147 rfl (lv_at hl 0 rfl) ?_
                    refine gm_get (C := R_Mo) (T := F_Mo) (n := 44) hx hb htl i_Mo hown hK hP eh rfl 3 (by decide) (htl _ k_746) (fun _ h => h) rfl d_Mo_policy_148 ?_
                    refine lv_iload hx hb d_Mo_policy_151 (lv_at hl 6 rfl) ?_
                    refine gz_iald hx hb hK hP 0 m2 rfl (by omega) (by omega) d_Mo_policy_153 ?_
                    rw [show ma i = ru i 0 from (hRU i (by omega)).1]
                    have b_59 := hU.1 i (by omega)
                    rw [← hQ]
                    exact gc_iret hx hb hr hlk hP hS d_Mo_policy_154 ⟨rfl, ru i 0, Or.inl ⟨i, by omega, by unfold mat; omega, hno, rfl⟩, rfl, rfl⟩
                  · skip
                    refine W.eq (g2 := F0 m 144 ls [.int (nI 0)]) rfl ?_
                    refine lv_if_eq (tgt := 155) hx hb d_Mo_policy_144 (by decide) (fun _ => ?_) (fun q => absurd q (by decide))
                    refine lv_iinc (v := nI (i + 1)) (lv' := [(6, .int (nI (i + 1))), (0, .ref h), (1, .int (nI d0)), (2, .int (nI pr0)), (3, .int (nI sa0)), (4, .int (nI ta0)), (5, .int (nI tp0))]) hx hb d_Mo_policy_155 hl (k := 6) rfl (nI_1 i) (by decide) rfl (fun ls hl => ?_)
                    refine lv_goto (tgt := 3) hx hb d_Mo_policy_158 (by decide) ?_
                    exact ih_3 (i + 1) ls _ _ (by omega) (fun j hj => by by_cases z : j = i; subst z; unfold mat; omega; exact hno j (by omega)) (by omega) hP hS (lv_sub hl [1, 2, 3, 4, 5, 6, 0] rfl)
                · skip
                  refine W.eq (g2 := F0 m 111 ls [.int (nI 0)]) rfl ?_
                  refine lv_if_ne (tgt := 117) hx hb d_Mo_policy_111 (by decide) (fun q => absurd q (by decide)) (fun _ => ?_)
                  refine lv_goto (tgt := 155) hx hb d_Mo_policy_114 (by decide) ?_
                  refine lv_iinc (v := nI (i + 1)) (lv' := [(6, .int (nI (i + 1))), (0, .ref h), (1, .int (nI d0)), (2, .int (nI pr0)), (3, .int (nI sa0)), (4, .int (nI ta0)), (5, .int (nI tp0))]) hx hb d_Mo_policy_155 hl (k := 6) rfl (nI_1 i) (by decide) rfl (fun ls hl => ?_)
                  refine lv_goto (tgt := 3) hx hb d_Mo_policy_158 (by decide) ?_
                  exact ih_3 (i + 1) ls _ _ (by omega) (fun j hj => by by_cases z : j = i; subst z; unfold mat; omega; exact hno j (by omega)) (by omega) hP hS (lv_sub hl [1, 2, 3, 4, 5, 6, 0] rfl)
              · skip
                refine W.eq (g2 := F0 m 81 ls [.int (nI 0)]) rfl ?_
                refine lv_if_eq (tgt := 155) hx hb d_Mo_policy_81 (by decide) (fun _ => ?_) (fun q => absurd q (by decide))
                refine lv_iinc (v := nI (i + 1)) (lv' := [(6, .int (nI (i + 1))), (0, .ref h), (1, .int (nI d0)), (2, .int (nI pr0)), (3, .int (nI sa0)), (4, .int (nI ta0)), (5, .int (nI tp0))]) hx hb d_Mo_policy_155 hl (k := 6) rfl (nI_1 i) (by decide) rfl (fun ls hl => ?_)
                refine lv_goto (tgt := 3) hx hb d_Mo_policy_158 (by decide) ?_
                exact ih_3 (i + 1) ls _ _ (by omega) (fun j hj => by by_cases z : j = i; subst z; unfold mat; omega; exact hno j (by omega)) (by omega) hP hS (lv_sub hl [1, 2, 3, 4, 5, 6, 0] rfl)
            · skip
              refine lv_aload_n hx hb d_Mo_policy_45 rfl (lv_at hl 0 rfl) ?_
              refine gm_get (C := R_Mo) (T := F_Mo) (n := 44) hx hb htl i_Mo hown hK hP eh rfl 5 (by decide) (htl _ k_748) (fun _ h => h) rfl d_Mo_policy_46 ?_
              refine lv_iload hx hb d_Mo_policy_49 (lv_at hl 6 rfl) ?_
              refine gz_iald hx hb hK hP 0 m4 rfl (by omega) (by omega) d_Mo_policy_51 ?_
              rw [show mp i = ru i 2 from (hRU i (by omega)).2.2.1]
              have b_60 := hU.1 i (by omega)
              refine lv_iload_n hx hb d_Mo_policy_52 rfl (lv_at hl 2 rfl) ?_
              refine ln_eq (tgt := 59) hx hb d_Mo_policy_53 (by decide) (by omega) (by omega) (fun c_61 => ?_) (fun c_61 => ?_)
              · skip
                refine lv_iload_n hx hb d_Mo_policy_59 rfl (lv_at hl 3 rfl) ?_
                refine lv_aload_n hx hb d_Mo_policy_60 rfl (lv_at hl 0 rfl) ?_
                refine gm_get (C := R_Mo) (T := F_Mo) (n := 44) hx hb htl i_Mo hown hK hP eh rfl 6 (by decide) (htl _ k_749) (fun _ h => h) rfl d_Mo_policy_61 ?_
                refine lv_iload hx hb d_Mo_policy_64 (lv_at hl 6 rfl) ?_
                refine lv_iconst (v := nI 3) hx hb d_Mo_policy_66 (by decide) ?_
                refine lv_imul hx hb d_Mo_policy_67 ?_
                rw [show (nI i) * (nI 3) = nI (i * 3) from pk_mul _ _]
                refine gz_iald hx hb hK hP 0 m5 rfl (by omega) (by omega) d_Mo_policy_68 ?_
                rw [show ml (i * 3) = lw i 0 from relU_l hRU (by omega) (p := 0) (by decide)]
                have b_62 := hU.2 i 0
                refine lv_aload_n hx hb d_Mo_policy_69 rfl (lv_at hl 0 rfl) ?_
                refine gm_get (C := R_Mo) (T := F_Mo) (n := 44) hx hb htl i_Mo hown hK hP eh rfl 7 (by decide) (htl _ k_750) (fun _ h => h) rfl d_Mo_policy_70 ?_
                refine lv_iload hx hb d_Mo_policy_73 (lv_at hl 6 rfl) ?_
                refine lv_iconst (v := nI 3) hx hb d_Mo_policy_75 (by decide) ?_
                refine lv_imul hx hb d_Mo_policy_76 ?_
                rw [show (nI i) * (nI 3) = nI (i * 3) from pk_mul _ _]
                refine gz_iald hx hb hK hP 0 m6 rfl (by omega) (by omega) d_Mo_policy_77 ?_
                rw [show mh (i * 3) = hw i 0 from relU_h hRU (by omega) (p := 0) (by decide)]
                have b_63 := hU.2 i 0
                refine gc_S (n := 3) [.int (nI sa0), .int (nI (lw i 0)), .int (nI (hw i 0))] [] hx hb hml hown hts hK hN hX hP hS (c_Mo_fits (by omega) (by omega) (by omega)) k_983 k_984 k_10 k_985 (by decide +kernel) ⟨by decide, by decide⟩ rfl hl.1 rfl (Nat.le_of_ble_eq_true rfl) d_Mo_policy_78 ⟨by decide, by decide⟩ (fun r N1 M_64 H locs hw hP hS => ?_)
                obtain ⟨rfl, hw⟩ := hw
                rcases hw with ⟨c_65, rfl, rfl⟩ | ⟨c_66, rfl, rfl⟩
                · skip
                  refine W.eq (g2 := F0 m 81 ls [.int (nI 1)]) rfl ?_
                  refine lv_if_eq (tgt := 155) hx hb d_Mo_policy_81 (by decide) (fun q => absurd q (by decide)) (fun _ => ?_)
                  refine lv_iload hx hb d_Mo_policy_84 (lv_at hl 4 rfl) ?_
                  refine lv_aload_n hx hb d_Mo_policy_86 rfl (lv_at hl 0 rfl) ?_
                  refine gm_get (C := R_Mo) (T := F_Mo) (n := 44) hx hb htl i_Mo hown hK hP eh rfl 6 (by decide) (htl _ k_749) (fun _ h => h) rfl d_Mo_policy_87 ?_
                  refine lv_iload hx hb d_Mo_policy_90 (lv_at hl 6 rfl) ?_
                  refine lv_iconst (v := nI 3) hx hb d_Mo_policy_92 (by decide) ?_
                  refine lv_imul hx hb d_Mo_policy_93 ?_
                  rw [show (nI i) * (nI 3) = nI (i * 3) from pk_mul _ _]
                  refine lv_iconst (v := nI 1) hx hb d_Mo_policy_94 (by decide) ?_
                  refine lv_iadd hx hb d_Mo_policy_95 ?_
                  rw [show (nI (i * 3)) + (nI 1) = nI ((i * 3) + 1) from nI_add _ _]
                  refine gz_iald hx hb hK hP 0 m5 rfl (by omega) (by omega) d_Mo_policy_96 ?_
                  rw [show ml ((i * 3) + 1) = lw i 1 from relU_l hRU (by omega) (p := 1) (by decide)]
                  have b_67 := hU.2 i 1
                  refine lv_aload_n hx hb d_Mo_policy_97 rfl (lv_at hl 0 rfl) ?_
                  refine gm_get (C := R_Mo) (T := F_Mo) (n := 44) hx hb htl i_Mo hown hK hP eh rfl 7 (by decide) (htl _ k_750) (fun _ h => h) rfl d_Mo_policy_98 ?_
                  refine lv_iload hx hb d_Mo_policy_101 (lv_at hl 6 rfl) ?_
                  refine lv_iconst (v := nI 3) hx hb d_Mo_policy_103 (by decide) ?_
                  refine lv_imul hx hb d_Mo_policy_104 ?_
                  rw [show (nI i) * (nI 3) = nI (i * 3) from pk_mul _ _]
                  refine lv_iconst (v := nI 1) hx hb d_Mo_policy_105 (by decide) ?_
                  refine lv_iadd hx hb d_Mo_policy_106 ?_
                  rw [show (nI (i * 3)) + (nI 1) = nI ((i * 3) + 1) from nI_add _ _]
                  refine gz_iald hx hb hK hP 0 m6 rfl (by omega) (by omega) d_Mo_policy_107 ?_
                  rw [show mh ((i * 3) + 1) = hw i 1 from relU_h hRU (by omega) (p := 1) (by decide)]
                  have b_68 := hU.2 i 1
                  refine gc_S (n := 3) [.int (nI ta0), .int (nI (lw i 1)), .int (nI (hw i 1))] [] hx hb hml hown hts hK hN hX hP hS (c_Mo_fits (by omega) (by omega) (by omega)) k_983 k_984 k_10 k_985 (by decide +kernel) ⟨by decide, by decide⟩ rfl hl.1 rfl (Nat.le_of_ble_eq_true rfl) d_Mo_policy_108 ⟨by decide, by decide⟩ (fun r N1 M_69 H locs hw hP hS => ?_)
                  obtain ⟨rfl, hw⟩ := hw
                  rcases hw with ⟨c_70, rfl, rfl⟩ | ⟨c_71, rfl, rfl⟩
                  · skip
                    refine W.eq (g2 := F0 m 111 ls [.int (nI 1)]) rfl ?_
                    refine lv_if_ne (tgt := 117) hx hb d_Mo_policy_111 (by decide) (fun _ => ?_) (fun q => absurd q (by decide))
                    refine lv_iload hx hb d_Mo_policy_117 (lv_at hl 5 rfl) ?_
                    refine lv_aload_n hx hb d_Mo_policy_119 rfl (lv_at hl 0 rfl) ?_
                    refine gm_get (C := R_Mo) (T := F_Mo) (n := 44) hx hb htl i_Mo hown hK hP eh rfl 6 (by decide) (htl _ k_749) (fun _ h => h) rfl d_Mo_policy_120 ?_
                    refine lv_iload hx hb d_Mo_policy_123 (lv_at hl 6 rfl) ?_
                    refine lv_iconst (v := nI 3) hx hb d_Mo_policy_125 (by decide) ?_
                    refine lv_imul hx hb d_Mo_policy_126 ?_
                    rw [show (nI i) * (nI 3) = nI (i * 3) from pk_mul _ _]
                    refine lv_iconst (v := nI 2) hx hb d_Mo_policy_127 (by decide) ?_
                    refine lv_iadd hx hb d_Mo_policy_128 ?_
                    rw [show (nI (i * 3)) + (nI 2) = nI ((i * 3) + 2) from nI_add _ _]
                    refine gz_iald hx hb hK hP 0 m5 rfl (by omega) (by omega) d_Mo_policy_129 ?_
                    rw [show ml ((i * 3) + 2) = lw i 2 from relU_l hRU (by omega) (p := 2) (by decide)]
                    have b_72 := hU.2 i 2
                    refine lv_aload_n hx hb d_Mo_policy_130 rfl (lv_at hl 0 rfl) ?_
                    refine gm_get (C := R_Mo) (T := F_Mo) (n := 44) hx hb htl i_Mo hown hK hP eh rfl 7 (by decide) (htl _ k_750) (fun _ h => h) rfl d_Mo_policy_131 ?_
                    refine lv_iload hx hb d_Mo_policy_134 (lv_at hl 6 rfl) ?_
                    refine lv_iconst (v := nI 3) hx hb d_Mo_policy_136 (by decide) ?_
                    refine lv_imul hx hb d_Mo_policy_137 ?_
                    rw [show (nI i) * (nI 3) = nI (i * 3) from pk_mul _ _]
                    refine lv_iconst (v := nI 2) hx hb d_Mo_policy_138 (by decide) ?_
                    refine lv_iadd hx hb d_Mo_policy_139 ?_
                    rw [show (nI (i * 3)) + (nI 2) = nI ((i * 3) + 2) from nI_add _ _]
                    refine gz_iald hx hb hK hP 0 m6 rfl (by omega) (by omega) d_Mo_policy_140 ?_
                    rw [show mh ((i * 3) + 2) = hw i 2 from relU_h hRU (by omega) (p := 2) (by decide)]
                    have b_73 := hU.2 i 2
                    refine gc_S (n := 3) [.int (nI tp0), .int (nI (lw i 2)), .int (nI (hw i 2))] [] hx hb hml hown hts hK hN hX hP hS (c_Mo_fits (by omega) (by omega) (by omega)) k_983 k_984 k_10 k_985 (by decide +kernel) ⟨by decide, by decide⟩ rfl hl.1 rfl (Nat.le_of_ble_eq_true rfl) d_Mo_policy_141 ⟨by decide, by decide⟩ (fun r N1 M_74 H locs hw hP hS => ?_)
                    obtain ⟨rfl, hw⟩ := hw
                    rcases hw with ⟨c_75, rfl, rfl⟩ | ⟨c_76, rfl, rfl⟩
                    · skip
                      refine W.eq (g2 := F0 m 144 ls [.int (nI 1)]) rfl ?_
                      refine lv_if_eq (tgt := 155) hx hb d_Mo_policy_144 (by decide) (fun q => absurd q (by decide)) (fun _ => ?_)
                      refine lv_aload_n hx hb d_Mo_policy_147 rfl (lv_at hl 0 rfl) ?_
                      refine gm_get (C := R_Mo) (T := F_Mo) (n := 44) hx hb htl i_Mo hown hK hP eh rfl 3 (by decide) (htl _ k_746) (fun _ h => h) rfl d_Mo_policy_148 ?_
                      refine lv_iload hx hb d_Mo_policy_151 (lv_at hl 6 rfl) ?_
                      refine gz_iald hx hb hK hP 0 m2 rfl (by omega) (by omega) d_Mo_policy_153 ?_
                      rw [show ma i = ru i 0 from (hRU i (by omega)).1]
                      have b_77 := hU.1 i (by omega)
                      rw [← hQ]
                      exact gc_iret hx hb hr hlk hP hS d_Mo_policy_154 ⟨rfl, ru i 0, Or.inl ⟨i, by omega, by unfold mat; omega, hno, rfl⟩, rfl, rfl⟩
                    · skip
                      refine W.eq (g2 := F0 m 144 ls [.int (nI 0)]) rfl ?_
                      refine lv_if_eq (tgt := 155) hx hb d_Mo_policy_144 (by decide) (fun _ => ?_) (fun q => absurd q (by decide))
                      refine lv_iinc (v := nI (i + 1)) (lv' := [(6, .int (nI (i + 1))), (0, .ref h), (1, .int (nI d0)), (2, .int (nI pr0)), (3, .int (nI sa0)), (4, .int (nI ta0)), (5, .int (nI tp0))]) hx hb d_Mo_policy_155 hl (k := 6) rfl (nI_1 i) (by decide) rfl (fun ls hl => ?_)
                      refine lv_goto (tgt := 3) hx hb d_Mo_policy_158 (by decide) ?_
                      exact ih_3 (i + 1) ls _ _ (by omega) (fun j hj => by by_cases z : j = i; subst z; unfold mat; omega; exact hno j (by omega)) (by omega) hP hS (lv_sub hl [1, 2, 3, 4, 5, 6, 0] rfl)
                  · skip
                    refine W.eq (g2 := F0 m 111 ls [.int (nI 0)]) rfl ?_
                    refine lv_if_ne (tgt := 117) hx hb d_Mo_policy_111 (by decide) (fun q => absurd q (by decide)) (fun _ => ?_)
                    refine lv_goto (tgt := 155) hx hb d_Mo_policy_114 (by decide) ?_
                    refine lv_iinc (v := nI (i + 1)) (lv' := [(6, .int (nI (i + 1))), (0, .ref h), (1, .int (nI d0)), (2, .int (nI pr0)), (3, .int (nI sa0)), (4, .int (nI ta0)), (5, .int (nI tp0))]) hx hb d_Mo_policy_155 hl (k := 6) rfl (nI_1 i) (by decide) rfl (fun ls hl => ?_)
                    refine lv_goto (tgt := 3) hx hb d_Mo_policy_158 (by decide) ?_
                    exact ih_3 (i + 1) ls _ _ (by omega) (fun j hj => by by_cases z : j = i; subst z; unfold mat; omega; exact hno j (by omega)) (by omega) hP hS (lv_sub hl [1, 2, 3, 4, 5, 6, 0] rfl)
                · skip
                  refine W.eq (g2 := F0 m 81 ls [.int (nI 0)]) rfl ?_
                  refine lv_if_eq (tgt := 155) hx hb d_Mo_policy_81 (by decide) (fun _ => ?_) (fun q => absurd q (by decide))
                  refine lv_iinc (v := nI (i + 1)) (lv' := [(6, .int (nI (i + 1))), (0, .ref h), (1, .int (nI d0)), (2, .int (nI pr0)), (3, .int (nI sa0)), (4, .int (nI ta0)), (5, .int (nI tp0))]) hx hb d_Mo_policy_155 hl (k := 6) rfl (nI_1 i) (by decide) rfl (fun ls hl => ?_)
                  refine lv_goto (tgt := 3) hx hb d_Mo_policy_158 (by decide) ?_
                  exact ih_3 (i + 1) ls _ _ (by omega) (fun j hj => by by_cases z : j = i; subst z; unfold mat; omega; exact hno j (by omega)) (by omega) hP hS (lv_sub hl [1, 2, 3, 4, 5, 6, 0] rfl)
              · skip
                refine lv_goto (tgt := 155) hx hb d_Mo_policy_56 (by decide) ?_
                refine lv_iinc (v := nI (i + 1)) (lv' := [(6, .int (nI (i + 1))), (0, .ref h), (1, .int (nI d0)), (2, .int (nI pr0)), (3, .int (nI sa0)), (4, .int (nI ta0)), (5, .int (nI tp0))]) hx hb d_Mo_policy_155 hl (k := 6) rfl (nI_1 i) (by decide) rfl (fun ls hl => ?_)
                refine lv_goto (tgt := 3) hx hb d_Mo_policy_158 (by decide) ?_
                exact ih_3 (i + 1) ls _ _ (by omega) (fun j hj => by by_cases z : j = i; subst z; unfold mat; omega; exact hno j (by omega)) (by omega) hP hS (lv_sub hl [1, 2, 3, 4, 5, 6, 0] rfl)
  exact loop_3 (_ + 1) 0 ls _ _ (Nat.zero_le _) (fun j hj => absurd hj (Nat.not_lt_zero _)) (Nat.lt_succ_self _) hP hS (lv_sub hl [1, 2, 3, 4, 5, 6, 0] rfl)
end C36
