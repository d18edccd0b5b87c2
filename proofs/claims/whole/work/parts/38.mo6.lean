section C38
variable {l : Launch} {D : va_G} {ca : Nat → ClassId} {A : Nat → Prop} {G : gG} {N : Nat} {M : gm_M}

theorem relE_rm2 {n i : Nat} {pp po pi : Nat → Nat} {me : Nat → Nat → Nat} (h : relE n pp po pi me) (hi : i < n) : relE (n - 1) (va_up pp i (pp (n - 1))) (va_up po i (po (n - 1))) (va_up pi i (pi (n - 1))) (mkE (va_up (me 0) i (pp (n - 1))) (va_up (me 1) i (po (n - 1))) (va_up (me 2) i (pi (n - 1) / 256)) (va_up (me 3) i (pi (n - 1) % 256))) := by
  intro k hk
  show va_up (me 0) i _ k = _ ∧ va_up (me 1) i _ k = _ ∧ va_up (me 2) i _ k = _ ∧ va_up (me 3) i _ k = _
  by_cases q : k = i
  · subst q; simp only [va_up_self, true_and, and_self]
  · simp only [va_up_ne _ _ q]; exact h k (by omega)
/-- the reference's next -/
def nxM (st sy ac fi op f cl sd : Nat) : Nat := if st ≤ 2 ∧ ¬ sy = 0 ∧ ¬ ac = 0 ∧ fi = 0 ∧ op = 0 then 2 else if st = 1 then (if f = 1 ∧ ¬ op = 0 then 1 else 0) else if st = 2 ∧ (op = 0 ∨ ac = 0) then 0 else if ¬ sy = 0 then 0 else if st ≤ 3 then (if ¬ fi = 0 then 4 else 3) else if st = 4 ∧ ¬ fi = 0 ∧ ¬ sd = cl then 5 else st
def bitN (f k : Nat) : Nat := if f &&& k = 0 then 0 else 1
def nxS (op cl st sd f : Nat) : Nat := nxM st (bitN f 1) (bitN f 2) (bitN f 4) (if sd = 1 - op then 1 else 0) f (1 - cl) sd
def nxC (f op cl st sd : Nat) : Bool := decide (stA 0 op cl st (1 - sd) f = (if nxS op cl st sd f = 0 then none else some (nxS op cl st sd f))) && (decide (nxS op cl st sd f = 4 → st ≤ 4) && decide (nxS op cl st sd f ≤ 5))
theorem nx_all : ((List.range 8).all fun f => (List.range 2).all fun op => (List.range 2).all fun cl => (List.range 5).all fun st => (List.range 2).all fun sd => nxC f op cl (st + 1) sd) = true := by decide +kernel
theorem nx_st {f op cl st sd : Nat} (hf : f < 8) (ho : op < 2) (hc : cl < 2) (hs : 1 ≤ st ∧ st ≤ 5) (hd : sd < 2) : stA 0 op cl st (1 - sd) f = (if nxS op cl st sd f = 0 then none else some (nxS op cl st sd f)) ∧ (nxS op cl st sd f = 4 → st ≤ 4) ∧ nxS op cl st sd f ≤ 5 := by
  have h := nx_all
  simp only [List.all_eq_true, List.mem_range] at h
  have := h f hf op ho cl hc (st - 1) (by omega) sd hd
  rw [show st - 1 + 1 = st by omega] at this
  unfold nxC at this
  rw [Bool.and_eq_true, Bool.and_eq_true, decide_eq_true_iff, decide_eq_true_iff, decide_eq_true_iff] at this
  exact this
theorem and8 : ∀ f, f < 16 → f &&& 8 = 0 → f < 8 := by decide
theorem relF_up {n k st tm cl : Nat} {fl : Nat → Nat → Nat} {mq : Nat → Nat → Nat} {A0 A9 : Nat → Nat} (h : relF n fl mq) (hk : k < n) (h0 : A0 k = st) (h0n : ∀ i, i ≠ k → A0 i = mq 0 i) (h9 : st = 4 → A9 k = 1 - cl) (h9n : ∀ i, i ≠ k → A9 i = mq 9 i) : relF n (va_up fl k (frow (fl k) st tm cl)) (mkQ A0 (mq 1) (mq 2) (mq 3) (mq 4) (mq 5) (mq 6) (va_up (mq 7) k tm) (mq 8) A9) := by
  intro i hi
  show A0 i = _ ∧ mq 1 i = _ ∧ mq 2 i = _ ∧ mq 3 i = _ ∧ mq 4 i = _ ∧ mq 5 i = _ ∧ mq 6 i = _ ∧ va_up (mq 7) k tm i = _ ∧ mq 8 i = _ ∧ (_ → A9 i = _)
  by_cases q : i = k
  · subst q
    rw [va_up_self, va_up_self]
    obtain ⟨e0, e1, e2, e3, e4, e5, e6, e7, e8, e9⟩ := h i hi
    exact ⟨h0, e1, e2, e3, e4, e5, e6, rfl, e8, h9⟩
  · rw [va_up_ne _ _ q, va_up_ne _ _ q, h0n i q, h9n i q]; exact h i hi
theorem relF_new {n pr ins out pub op tm a b c d sd : Nat} {fl : Nat → Nat → Nat} {mq : Nat → Nat → Nat} {st : Nat} (h : relF n fl mq) (hs : st = if pr = 0 then 1 else 6) (ha : ins / 256 = a ∧ ins % 256 = b ∧ out / 256 = c ∧ out % 256 = d) (ho : sd = 1 - op) : relF (n + 1) (newF fl n pr ins out pub op tm) (mkQ (va_up (mq 0) n st) (va_up (mq 1) n pr) (va_up (mq 2) n a) (va_up (mq 3) n b) (va_up (mq 4) n c) (va_up (mq 5) n d) (va_up (mq 6) n pub) (va_up (mq 7) n tm) (va_up (mq 8) n sd) (mq 9)) := by
  intro i hi
  show va_up (mq 0) n st i = _ ∧ va_up (mq 1) n pr i = _ ∧ va_up (mq 2) n a i = _ ∧ va_up (mq 3) n b i = _ ∧ va_up (mq 4) n c i = _ ∧ va_up (mq 5) n d i = _ ∧ va_up (mq 6) n pub i = _ ∧ va_up (mq 7) n tm i = _ ∧ va_up (mq 8) n sd i = _ ∧ (_ → mq 9 i = _)
  unfold newF
  by_cases q : i = n
  · subst q
    simp only [va_up_self]
    refine ⟨hs, rfl, ha.1.symm, ha.2.1.symm, ha.2.2.1.symm, ha.2.2.2.symm, rfl, rfl, ho, fun z => ?_⟩
    exfalso
    have z : (if pr = 0 then 1 else 6) = 4 := z
    split at z <;> omega
  · simp only [va_up_ne _ _ q]; exact h i (by omega)
theorem used_mp {ne : Nat} {pp po pi : Nat → Nat} {nf : Nat} {fl : Nat → Nat → Nat} {a b v : Nat} (h : mpE ne pp po pi nf fl a b = some v) (hp : ∀ k, k < ne → po k ≤ 99) (hb : 100 ≤ b) : used fl nf a b := by
  rcases mpE_has h with ⟨k, h1, h2⟩ | ⟨k, h1, h2⟩
  · have := hp k h1; omega
  · exact ⟨k, h1, h2⟩
theorem nused_mp {ne : Nat} {pp po pi : Nat → Nat} {nf : Nat} {fl : Nat → Nat → Nat} {a b : Nat} (h : mpE ne pp po pi nf fl a b = none) : ¬ used fl nf a b := fun ⟨k, h1, h2⟩ => mpE_no h (Or.inr ⟨k, h1, h2⟩)
set_option maxHeartbeats 4000000 in
set_option maxRecDepth 100000 in
theorem c_Mo_hide (y y2 : Int32) {h le nr tl ne nf na an tm cn cs bd lt nt wh : Nat} {bp fx fy : Int32} {me : Nat → Nat → Nat} {mq : Nat → Nat → Nat} {pp po pi : Nat → Nat} {fl : Nat → Nat → Nat} (eh : M h = some (moO h (nI le) bp (nI nr) (nI wh) (nI tl) (nI ne) (nI nf) (nI na) (nI an) (nI tm) (nI cn) (nI cs) (nI bd) (nI lt) (nI nt) fx fy)) (m10 : M (h + 10) = some (.inl (ca 0, 5, .inl (iN (me 0))))) (m11 : M (h + 11) = some (.inl (ca 0, 5, .inl (iN (me 1))))) (m12 : M (h + 12) = some (.inl (ca 0, 5, .inl (iN (me 2))))) (m13 : M (h + 13) = some (.inl (ca 0, 5, .inl (iN (me 3))))) (m14 : M (h + 14) = some (.inl (ca 0, 17, .inl (iN (mq 0))))) (m15 : M (h + 15) = some (.inl (ca 0, 17, .inl (iN (mq 1))))) (m16 : M (h + 16) = some (.inl (ca 0, 17, .inl (iN (mq 2))))) (m17 : M (h + 17) = some (.inl (ca 0, 17, .inl (iN (mq 3))))) (m18 : M (h + 18) = some (.inl (ca 0, 17, .inl (iN (mq 4))))) (m19 : M (h + 19) = some (.inl (ca 0, 17, .inl (iN (mq 5))))) (m20 : M (h + 20) = some (.inl (ca 0, 17, .inl (iN (mq 6))))) (m21 : M (h + 21) = some (.inl (ca 0, 17, .inl (iN (mq 7))))) (m22 : M (h + 22) = some (.inl (ca 0, 17, .inl (iN (mq 8))))) (m23 : M (h + 23) = some (.inl (ca 0, 17, .inl (iN (mq 9))))) (hRE : relE ne pp po pi me) (hne : ne ≤ 4) (hpp : ∀ k, pp k < 65536) (hpo : ∀ k, po k < 65536) (hpi : ∀ k, pi k < 65536) (hRF : relF nf fl mq) (hnf : nf ≤ 16) (hF : okF fl) : gC l D ca A G y_Mo_hide (.code y_Mo_hide b_Mo_hide 5 (some .int)) ({ frames := 1, cells := 0, slots := 0, locals := 22 }) N M [.ref h, .int y, .int y2] gm_i (fun (r : Int32) (N1 : Nat) (M1 : gm_M) => N = N1 ∧ (((∀ j, j < ne → ¬ (nI (pp j) = y ∧ nI (po j) = y2)) ∧ M = M1 ∧ (-1) = r) ∨ (∃ (k : Nat) (fl1 : Nat → Nat → Nat) (n1 : Nat) (me1 : Nat → Nat → Nat) (mq1 : Nat → Nat → Nat), (k < ne) ∧ (nI (pp k) = y ∧ nI (po k) = y2) ∧ (∀ j, j < k → ¬ (nI (pp j) = y ∧ nI (po j) = y2)) ∧ (sweep (eP (pp k) (po k)) nf fl nf = (fl1, n1)) ∧ (n1 ≤ nf) ∧ (relF n1 fl1 mq1) ∧ (relE (ne - 1) (va_up pp k (pp (ne - 1))) (va_up po k (po (ne - 1))) (va_up pi k (pi (ne - 1))) me1) ∧ (okF fl1) ∧ M1 h = some (moO h (nI le) bp (nI nr) (nI wh) (nI tl) (nI (ne - 1)) (nI n1) (nI na) (nI an) (nI tm) (nI cn) (nI cs) (nI bd) (nI lt) (nI nt) fx fy) ∧ M1 (h + 10) = some (.inl (ca 0, 5, .inl (iN (me1 0)))) ∧ M1 (h + 11) = some (.inl (ca 0, 5, .inl (iN (me1 1)))) ∧ M1 (h + 12) = some (.inl (ca 0, 5, .inl (iN (me1 2)))) ∧ M1 (h + 13) = some (.inl (ca 0, 5, .inl (iN (me1 3)))) ∧ M1 (h + 14) = some (.inl (ca 0, 17, .inl (iN (mq1 0)))) ∧ M1 (h + 15) = some (.inl (ca 0, 17, .inl (iN (mq1 1)))) ∧ M1 (h + 16) = some (.inl (ca 0, 17, .inl (iN (mq1 2)))) ∧ M1 (h + 17) = some (.inl (ca 0, 17, .inl (iN (mq1 3)))) ∧ M1 (h + 18) = some (.inl (ca 0, 17, .inl (iN (mq1 4)))) ∧ M1 (h + 19) = some (.inl (ca 0, 17, .inl (iN (mq1 5)))) ∧ M1 (h + 20) = some (.inl (ca 0, 17, .inl (iN (mq1 6)))) ∧ M1 (h + 21) = some (.inl (ca 0, 17, .inl (iN (mq1 7)))) ∧ M1 (h + 22) = some (.inl (ca 0, 17, .inl (iN (mq1 8)))) ∧ M1 (h + 23) = some (.inl (ca 0, 17, .inl (iN (mq1 9)))) ∧ (∀ z, z ≠ h → z ≠ (h + 10) → z ≠ (h + 11) → z ≠ (h + 12) → z ≠ (h + 13) → z ≠ (h + 14) → z ≠ (h + 15) → z ≠ (h + 16) → z ≠ (h + 17) → z ≠ (h + 18) → z ≠ (h + 19) → z ≠ (h + 20) → z ≠ (h + 21) → z ≠ (h + 22) → z ≠ (h + 23) → M1 z = M z) ∧ nI 0 = r))) := by
  refine gm_body (by decide) (Nat.le_of_ble_eq_true rfl) (fun p e s m below meth c ls hx hb hr hts hown hlk hml hnm hP hK hN hX hS hl => ?_)
  have htl : ∀ w ∈ LW, w.before _ s = true := fun w h => hts w (List.mem_cons_of_mem _ h)
  have hown : s.vm.findClass "PacketGateModel" = some m.cls := hown
  have hl : lv_has ls 5 [(0, .ref h), (1, .int y), (2, .int y2)] := hl
  generalize hQ : MQ below _ _ s _ _ A = Q
  refine lv_iconst (v := nI 0) hx hb d_Mo_hide_0 (by decide) ?_
  refine lv_istore_n (lv' := [(3, .int (nI 0)), (0, .ref h), (1, .int y), (2, .int y2)]) hx hb d_Mo_hide_1 rfl hl (by decide) rfl (fun ls hl => ?_)
  have loop_2 : ∀ (fu : Nat) (i : Nat) (ls : Array Slot) (H : Heap) (locs : List Loc), (i ≤ ne) → (∀ z, z < i → ¬ (nI (pp z) = y ∧ nI (po z) = y2)) → (ne - i) < fu → gm_P D cls A N M H → va_S A s.heap H locs → lv_has ls 5 [(0, .ref h), (1, .int y), (2, .int y2), (3, .int (nI i))] → W p l e ({ frames := 1, cells := 0, slots := 0, locals := 22 }) s m ([.ref h, .int y, .int y2] : List Value).toArray below meth c H locs (0) (0) Q (F0 m 2 ls []) := by
    intro fu
    induction fu with
    | zero => intro i ls H locs hi hno1 hk; exact absurd hk (Nat.not_lt_zero _)
    | succ fu ih_2 =>
      intro i ls H locs hi hno1 hk hP hS hl
      refine lv_iload_n hx hb d_Mo_hide_2 rfl (lv_at hl 3 rfl) ?_
      refine lv_aload_n hx hb d_Mo_hide_3 rfl (lv_at hl 0 rfl) ?_
      refine gm_get (C := R_Mo) (T := F_Mo) (n := 44) hx hb htl i_Mo hown hK hP eh rfl 18 (by decide) (htl _ k_761) (fun _ h => h) rfl d_Mo_hide_4 ?_
      refine ln_ge (tgt := 158) hx hb d_Mo_hide_7 (by decide) (by omega) (by omega) (fun c_1 => ?_) (fun c_1 => ?_)
      · skip
        refine lv_iconst (v := (-1)) hx hb d_Mo_hide_158 (by decide) ?_
        rw [← hQ]
        exact gc_iret hx hb hr hlk hP hS d_Mo_hide_159 ⟨rfl, Or.inl ⟨fun z hz => hno1 z (by omega), rfl, rfl⟩⟩
      · skip
        refine lv_aload_n hx hb d_Mo_hide_10 rfl (lv_at hl 0 rfl) ?_
        refine gm_get (C := R_Mo) (T := F_Mo) (n := 44) hx hb htl i_Mo hown hK hP eh rfl 14 (by decide) (htl _ k_757) (fun _ h => h) rfl d_Mo_hide_11 ?_
        refine lv_iload_n hx hb d_Mo_hide_14 rfl (lv_at hl 3 rfl) ?_
        refine gz_iald hx hb hK hP 0 m10 rfl (by omega) (by omega) d_Mo_hide_15 ?_
        rw [show (me 0) i = pp i from (hRE i (by omega)).1]
        have b_2 := hpp i
        refine lv_iload_n hx hb d_Mo_hide_16 rfl (lv_at hl 1 rfl) ?_
        refine lv_icmp_ne (tgt := 152) hx hb d_Mo_hide_17 (by decide) (fun c_3 => ?_) (fun c_3 => ?_)
        · skip
          refine lv_iinc (v := nI (i + 1)) (lv' := [(3, .int (nI (i + 1))), (0, .ref h), (1, .int y), (2, .int y2)]) hx hb d_Mo_hide_152 hl (k := 3) rfl (nI_1 i) (by decide) rfl (fun ls hl => ?_)
          refine lv_goto (tgt := 2) hx hb d_Mo_hide_155 (by decide) ?_
          exact ih_2 (i + 1) ls _ _ (by omega) (fun z hz => by by_cases q : z = i; subst q; (first | exact fun q0 => absurd q0.1 (by assumption) | exact fun q0 => absurd q0.2 (by assumption)); exact hno1 z (by omega)) (by omega) hP hS (lv_sub hl [1, 2, 3, 0] rfl)
        · skip
          refine lv_aload_n hx hb d_Mo_hide_20 rfl (lv_at hl 0 rfl) ?_
          refine gm_get (C := R_Mo) (T := F_Mo) (n := 44) hx hb htl i_Mo hown hK hP eh rfl 15 (by decide) (htl _ k_758) (fun _ h => h) rfl d_Mo_hide_21 ?_
          refine lv_iload_n hx hb d_Mo_hide_24 rfl (lv_at hl 3 rfl) ?_
          refine gz_iald hx hb hK hP 0 m11 rfl (by omega) (by omega) d_Mo_hide_25 ?_
          rw [show (me 1) i = po i from (hRE i (by omega)).2.1]
          have b_4 := hpo i
          refine lv_iload_n hx hb d_Mo_hide_26 rfl (lv_at hl 2 rfl) ?_
          refine lv_icmp_eq (tgt := 33) hx hb d_Mo_hide_27 (by decide) (fun c_5 => ?_) (fun c_5 => ?_)
          · skip
            subst c_3; subst c_5
            refine lv_aload_n hx hb d_Mo_hide_33 rfl (lv_at hl 0 rfl) ?_
            refine lv_dup hx hb d_Mo_hide_34 rfl ?_
            refine gm_get (C := R_Mo) (T := F_Mo) (n := 44) hx hb htl i_Mo hown hK hP eh rfl 18 (by decide) (htl _ k_761) (fun _ h => h) rfl d_Mo_hide_35 ?_
            refine lv_iconst (v := nI 1) hx hb d_Mo_hide_38 (by decide) ?_
            refine lv_isub hx hb d_Mo_hide_39 ?_
            rw [show (nI ne) - (nI 1) = nI (ne - 1) from pk_sub (by omega)]
            refine gm_put (C := R_Mo) (T := F_Mo) (n := 44) (ty := .int) hx hb htl i_Mo t_Mo tk_Mo n_Mo hown hK hP hS eh rfl 18 (by decide) (htl _ k_761) (fun _ h => h) rfl (tk_Mo 18 (by decide)) rfl rfl (Nat.le_of_ble_eq_true rfl) d_Mo_hide_40 (fun H locs hP hS => ?_)
            have hP : gm_P D cls A N (gm_up M h (moO h (nI le) bp (nI nr) (nI wh) (nI tl) (nI (ne - 1)) (nI nf) (nI na) (nI an) (nI tm) (nI cn) (nI cs) (nI bd) (nI lt) (nI nt) fx fy)) H := hP
            have h_6 := gm_pass (k := h) (y := moO h (nI le) bp (nI nr) (nI wh) (nI tl) (nI (ne - 1)) (nI nf) (nI na) (nI an) (nI tm) (nI cn) (nI cs) (nI bd) (nI lt) (nI nt) fx fy) m10 (gm_ne m10 eh (fun h => by cases h))
            have h_7 := gm_pass (k := h) (y := moO h (nI le) bp (nI nr) (nI wh) (nI tl) (nI (ne - 1)) (nI nf) (nI na) (nI an) (nI tm) (nI cn) (nI cs) (nI bd) (nI lt) (nI nt) fx fy) m11 (gm_ne m11 eh (fun h => by cases h))
            have h_8 := gm_pass (k := h) (y := moO h (nI le) bp (nI nr) (nI wh) (nI tl) (nI (ne - 1)) (nI nf) (nI na) (nI an) (nI tm) (nI cn) (nI cs) (nI bd) (nI lt) (nI nt) fx fy) m12 (gm_ne m12 eh (fun h => by cases h))
            have h_9 := gm_pass (k := h) (y := moO h (nI le) bp (nI nr) (nI wh) (nI tl) (nI (ne - 1)) (nI nf) (nI na) (nI an) (nI tm) (nI cn) (nI cs) (nI bd) (nI lt) (nI nt) fx fy) m13 (gm_ne m13 eh (fun h => by cases h))
            have h_10 := gm_pass (k := h) (y := moO h (nI le) bp (nI nr) (nI wh) (nI tl) (nI (ne - 1)) (nI nf) (nI na) (nI an) (nI tm) (nI cn) (nI cs) (nI bd) (nI lt) (nI nt) fx fy) m14 (gm_ne m14 eh (fun h => by cases h))
            have h_11 := gm_pass (k := h) (y := moO h (nI le) bp (nI nr) (nI wh) (nI tl) (nI (ne - 1)) (nI nf) (nI na) (nI an) (nI tm) (nI cn) (nI cs) (nI bd) (nI lt) (nI nt) fx fy) m15 (gm_ne m15 eh (fun h => by cases h))
            have h_12 := gm_pass (k := h) (y := moO h (nI le) bp (nI nr) (nI wh) (nI tl) (nI (ne - 1)) (nI nf) (nI na) (nI an) (nI tm) (nI cn) (nI cs) (nI bd) (nI lt) (nI nt) fx fy) m16 (gm_ne m16 eh (fun h => by cases h))
            have h_13 := gm_pass (k := h) (y := moO h (nI le) bp (nI nr) (nI wh) (nI tl) (nI (ne - 1)) (nI nf) (nI na) (nI an) (nI tm) (nI cn) (nI cs) (nI bd) (nI lt) (nI nt) fx fy) m17 (gm_ne m17 eh (fun h => by cases h))
            have h_14 := gm_pass (k := h) (y := moO h (nI le) bp (nI nr) (nI wh) (nI tl) (nI (ne - 1)) (nI nf) (nI na) (nI an) (nI tm) (nI cn) (nI cs) (nI bd) (nI lt) (nI nt) fx fy) m18 (gm_ne m18 eh (fun h => by cases h))
            have h_15 := gm_pass (k := h) (y := moO h (nI le) bp (nI nr) (nI wh) (nI tl) (nI (ne - 1)) (nI nf) (nI na) (nI an) (nI tm) (nI cn) (nI cs) (nI bd) (nI lt) (nI nt) fx fy) m19 (gm_ne m19 eh (fun h => by cases h))
            have h_16 := gm_pass (k := h) (y := moO h (nI le) bp (nI nr) (nI wh) (nI tl) (nI (ne - 1)) (nI nf) (nI na) (nI an) (nI tm) (nI cn) (nI cs) (nI bd) (nI lt) (nI nt) fx fy) m20 (gm_ne m20 eh (fun h => by cases h))
            have h_17 := gm_pass (k := h) (y := moO h (nI le) bp (nI nr) (nI wh) (nI tl) (nI (ne - 1)) (nI nf) (nI na) (nI an) (nI tm) (nI cn) (nI cs) (nI bd) (nI lt) (nI nt) fx fy) m21 (gm_ne m21 eh (fun h => by cases h))
            have h_18 := gm_pass (k := h) (y := moO h (nI le) bp (nI nr) (nI wh) (nI tl) (nI (ne - 1)) (nI nf) (nI na) (nI an) (nI tm) (nI cn) (nI cs) (nI bd) (nI lt) (nI nt) fx fy) m22 (gm_ne m22 eh (fun h => by cases h))
            have h_19 := gm_pass (k := h) (y := moO h (nI le) bp (nI nr) (nI wh) (nI tl) (nI (ne - 1)) (nI nf) (nI na) (nI an) (nI tm) (nI cn) (nI cs) (nI bd) (nI lt) (nI nt) fx fy) m23 (gm_ne m23 eh (fun h => by cases h))
            have h_20 := gm_up_self M h (moO h (nI le) bp (nI nr) (nI wh) (nI tl) (nI (ne - 1)) (nI nf) (nI na) (nI an) (nI tm) (nI cn) (nI cs) (nI bd) (nI lt) (nI nt) fx fy)
            refine lv_aload_n hx hb d_Mo_hide_43 rfl (lv_at hl 0 rfl) ?_
            refine gm_get (C := R_Mo) (T := F_Mo) (n := 44) hx hb htl i_Mo hown hK hP h_20 rfl 14 (by decide) (htl _ k_757) (fun _ h => h) rfl d_Mo_hide_44 ?_
            refine lv_iload_n hx hb d_Mo_hide_47 rfl (lv_at hl 3 rfl) ?_
            refine lv_aload_n hx hb d_Mo_hide_48 rfl (lv_at hl 0 rfl) ?_
            refine gm_get (C := R_Mo) (T := F_Mo) (n := 44) hx hb htl i_Mo hown hK hP h_20 rfl 14 (by decide) (htl _ k_757) (fun _ h => h) rfl d_Mo_hide_49 ?_
            refine lv_aload_n hx hb d_Mo_hide_52 rfl (lv_at hl 0 rfl) ?_
            refine gm_get (C := R_Mo) (T := F_Mo) (n := 44) hx hb htl i_Mo hown hK hP h_20 rfl 18 (by decide) (htl _ k_761) (fun _ h => h) rfl d_Mo_hide_53 ?_
            refine gz_iald hx hb hK hP 0 h_6 rfl (by omega) (by omega) d_Mo_hide_56 ?_
            rw [show (me 0) (ne - 1) = pp (ne - 1) from (hRE (ne - 1) (by omega)).1]
            have b_21 := hpp (ne - 1)
            refine gz_iast hx hb hK hP hS 0 h_6 rfl (by omega) (by omega) d_Mo_hide_57 (fun H locs hP hS => ?_)
            have hP : gm_P D cls A N (gm_up (gm_up M h (moO h (nI le) bp (nI nr) (nI wh) (nI tl) (nI (ne - 1)) (nI nf) (nI na) (nI an) (nI tm) (nI cn) (nI cs) (nI bd) (nI lt) (nI nt) fx fy)) (h + 10) (.inl (ca 0, 5, .inl (iN (va_up (me 0) i (pp (ne - 1))))))) H := hP
            have h_22 := gm_pass (k := (h + 10)) (y := .inl (ca 0, 5, .inl (iN (va_up (me 0) i (pp (ne - 1)))))) h_7 (by omega)
            have h_23 := gm_pass (k := (h + 10)) (y := .inl (ca 0, 5, .inl (iN (va_up (me 0) i (pp (ne - 1)))))) h_8 (by omega)
            have h_24 := gm_pass (k := (h + 10)) (y := .inl (ca 0, 5, .inl (iN (va_up (me 0) i (pp (ne - 1)))))) h_9 (by omega)
            have h_25 := gm_pass (k := (h + 10)) (y := .inl (ca 0, 5, .inl (iN (va_up (me 0) i (pp (ne - 1)))))) h_10 (gm_ne h_10 h_6 (fun h => by simp at h))
            have h_26 := gm_pass (k := (h + 10)) (y := .inl (ca 0, 5, .inl (iN (va_up (me 0) i (pp (ne - 1)))))) h_11 (gm_ne h_11 h_6 (fun h => by simp at h))
            have h_27 := gm_pass (k := (h + 10)) (y := .inl (ca 0, 5, .inl (iN (va_up (me 0) i (pp (ne - 1)))))) h_12 (gm_ne h_12 h_6 (fun h => by simp at h))
            have h_28 := gm_pass (k := (h + 10)) (y := .inl (ca 0, 5, .inl (iN (va_up (me 0) i (pp (ne - 1)))))) h_13 (gm_ne h_13 h_6 (fun h => by simp at h))
            have h_29 := gm_pass (k := (h + 10)) (y := .inl (ca 0, 5, .inl (iN (va_up (me 0) i (pp (ne - 1)))))) h_14 (gm_ne h_14 h_6 (fun h => by simp at h))
            have h_30 := gm_pass (k := (h + 10)) (y := .inl (ca 0, 5, .inl (iN (va_up (me 0) i (pp (ne - 1)))))) h_15 (gm_ne h_15 h_6 (fun h => by simp at h))
            have h_31 := gm_pass (k := (h + 10)) (y := .inl (ca 0, 5, .inl (iN (va_up (me 0) i (pp (ne - 1)))))) h_16 (gm_ne h_16 h_6 (fun h => by simp at h))
            have h_32 := gm_pass (k := (h + 10)) (y := .inl (ca 0, 5, .inl (iN (va_up (me 0) i (pp (ne - 1)))))) h_17 (gm_ne h_17 h_6 (fun h => by simp at h))
            have h_33 := gm_pass (k := (h + 10)) (y := .inl (ca 0, 5, .inl (iN (va_up (me 0) i (pp (ne - 1)))))) h_18 (gm_ne h_18 h_6 (fun h => by simp at h))
            have h_34 := gm_pass (k := (h + 10)) (y := .inl (ca 0, 5, .inl (iN (va_up (me 0) i (pp (ne - 1)))))) h_19 (gm_ne h_19 h_6 (fun h => by simp at h))
            have h_35 := gm_pass (k := (h + 10)) (y := .inl (ca 0, 5, .inl (iN (va_up (me 0) i (pp (ne - 1)))))) h_20 (gm_ne h_20 h_6 (fun h => by cases h))
            have h_36 := gm_up_self (gm_up M h (moO h (nI le) bp (nI nr) (nI wh) (nI tl) (nI (ne - 1)) (nI nf) (nI na) (nI an) (nI tm) (nI cn) (nI cs) (nI bd) (nI lt) (nI nt) fx fy)) (h + 10) (.inl (ca 0, 5, .inl (iN (va_up (me 0) i (pp (ne - 1))))))
            refine lv_aload_n hx hb d_Mo_hide_58 rfl (lv_at hl 0 rfl) ?_
            refine gm_get (C := R_Mo) (T := F_Mo) (n := 44) hx hb htl i_Mo hown hK hP h_35 rfl 15 (by decide) (htl _ k_758) (fun _ h => h) rfl d_Mo_hide_59 ?_
            refine lv_iload_n hx hb d_Mo_hide_62 rfl (lv_at hl 3 rfl) ?_
            refine lv_aload_n hx hb d_Mo_hide_63 rfl (lv_at hl 0 rfl) ?_
            refine gm_get (C := R_Mo) (T := F_Mo) (n := 44) hx hb htl i_Mo hown hK hP h_35 rfl 15 (by decide) (htl _ k_758) (fun _ h => h) rfl d_Mo_hide_64 ?_
            refine lv_aload_n hx hb d_Mo_hide_67 rfl (lv_at hl 0 rfl) ?_
            refine gm_get (C := R_Mo) (T := F_Mo) (n := 44) hx hb htl i_Mo hown hK hP h_35 rfl 18 (by decide) (htl _ k_761) (fun _ h => h) rfl d_Mo_hide_68 ?_
            refine gz_iald hx hb hK hP 0 h_22 rfl (by omega) (by omega) d_Mo_hide_71 ?_
            rw [show (me 1) (ne - 1) = po (ne - 1) from (hRE (ne - 1) (by omega)).2.1]
            have b_37 := hpo (ne - 1)
            refine gz_iast hx hb hK hP hS 0 h_22 rfl (by omega) (by omega) d_Mo_hide_72 (fun H locs hP hS => ?_)
            have hP : gm_P D cls A N (gm_up (gm_up (gm_up M h (moO h (nI le) bp (nI nr) (nI wh) (nI tl) (nI (ne - 1)) (nI nf) (nI na) (nI an) (nI tm) (nI cn) (nI cs) (nI bd) (nI lt) (nI nt) fx fy)) (h + 10) (.inl (ca 0, 5, .inl (iN (va_up (me 0) i (pp (ne - 1))))))) (h + 11) (.inl (ca 0, 5, .inl (iN (va_up (me 1) i (po (ne - 1))))))) H := hP
            have h_38 := gm_pass (k := (h + 11)) (y := .inl (ca 0, 5, .inl (iN (va_up (me 1) i (po (ne - 1)))))) h_23 (by omega)
            have h_39 := gm_pass (k := (h + 11)) (y := .inl (ca 0, 5, .inl (iN (va_up (me 1) i (po (ne - 1)))))) h_24 (by omega)
            have h_40 := gm_pass (k := (h + 11)) (y := .inl (ca 0, 5, .inl (iN (va_up (me 1) i (po (ne - 1)))))) h_25 (gm_ne h_25 h_22 (fun h => by simp at h))
            have h_41 := gm_pass (k := (h + 11)) (y := .inl (ca 0, 5, .inl (iN (va_up (me 1) i (po (ne - 1)))))) h_26 (gm_ne h_26 h_22 (fun h => by simp at h))
            have h_42 := gm_pass (k := (h + 11)) (y := .inl (ca 0, 5, .inl (iN (va_up (me 1) i (po (ne - 1)))))) h_27 (gm_ne h_27 h_22 (fun h => by simp at h))
            have h_43 := gm_pass (k := (h + 11)) (y := .inl (ca 0, 5, .inl (iN (va_up (me 1) i (po (ne - 1)))))) h_28 (gm_ne h_28 h_22 (fun h => by simp at h))
            have h_44 := gm_pass (k := (h + 11)) (y := .inl (ca 0, 5, .inl (iN (va_up (me 1) i (po (ne - 1)))))) h_29 (gm_ne h_29 h_22 (fun h => by simp at h))
            have h_45 := gm_pass (k := (h + 11)) (y := .inl (ca 0, 5, .inl (iN (va_up (me 1) i (po (ne - 1)))))) h_30 (gm_ne h_30 h_22 (fun h => by simp at h))
            have h_46 := gm_pass (k := (h + 11)) (y := .inl (ca 0, 5, .inl (iN (va_up (me 1) i (po (ne - 1)))))) h_31 (gm_ne h_31 h_22 (fun h => by simp at h))
            have h_47 := gm_pass (k := (h + 11)) (y := .inl (ca 0, 5, .inl (iN (va_up (me 1) i (po (ne - 1)))))) h_32 (gm_ne h_32 h_22 (fun h => by simp at h))
            have h_48 := gm_pass (k := (h + 11)) (y := .inl (ca 0, 5, .inl (iN (va_up (me 1) i (po (ne - 1)))))) h_33 (gm_ne h_33 h_22 (fun h => by simp at h))
            have h_49 := gm_pass (k := (h + 11)) (y := .inl (ca 0, 5, .inl (iN (va_up (me 1) i (po (ne - 1)))))) h_34 (gm_ne h_34 h_22 (fun h => by simp at h))
            have h_50 := gm_pass (k := (h + 11)) (y := .inl (ca 0, 5, .inl (iN (va_up (me 1) i (po (ne - 1)))))) h_35 (gm_ne h_35 h_22 (fun h => by cases h))
            have h_51 := gm_pass (k := (h + 11)) (y := .inl (ca 0, 5, .inl (iN (va_up (me 1) i (po (ne - 1)))))) h_36 (by omega)
            have h_52 := gm_up_self (gm_up (gm_up M h (moO h (nI le) bp (nI nr) (nI wh) (nI tl) (nI (ne - 1)) (nI nf) (nI na) (nI an) (nI tm) (nI cn) (nI cs) (nI bd) (nI lt) (nI nt) fx fy)) (h + 10) (.inl (ca 0, 5, .inl (iN (va_up (me 0) i (pp (ne - 1))))))) (h + 11) (.inl (ca 0, 5, .inl (iN (va_up (me 1) i (po (ne - 1))))))
            refine lv_aload_n hx hb d_Mo_hide_73 rfl (lv_at hl 0 rfl) ?_
            refine gm_get (C := R_Mo) (T := F_Mo) (n := 44) hx hb htl i_Mo hown hK hP h_50 rfl 16 (by decide) (htl _ k_759) (fun _ h => h) rfl d_Mo_hide_74 ?_
            refine lv_iload_n hx hb d_Mo_hide_77 rfl (lv_at hl 3 rfl) ?_
            refine lv_aload_n hx hb d_Mo_hide_78 rfl (lv_at hl 0 rfl) ?_
            refine gm_get (C := R_Mo) (T := F_Mo) (n := 44) hx hb htl i_Mo hown hK hP h_50 rfl 16 (by decide) (htl _ k_759) (fun _ h => h) rfl d_Mo_hide_79 ?_
            refine lv_aload_n hx hb d_Mo_hide_82 rfl (lv_at hl 0 rfl) ?_
            refine gm_get (C := R_Mo) (T := F_Mo) (n := 44) hx hb htl i_Mo hown hK hP h_50 rfl 18 (by decide) (htl _ k_761) (fun _ h => h) rfl d_Mo_hide_83 ?_
            refine gz_iald hx hb hK hP 0 h_38 rfl (by omega) (by omega) d_Mo_hide_86 ?_
            rw [show (me 2) (ne - 1) = pi (ne - 1) / 256 from (hRE (ne - 1) (by omega)).2.2.1]
            have b_53 := hpi (ne - 1)
            refine gz_iast hx hb hK hP hS 0 h_38 rfl (by omega) (by omega) d_Mo_hide_87 (fun H locs hP hS => ?_)
            have hP : gm_P D cls A N (gm_up (gm_up (gm_up (gm_up M h (moO h (nI le) bp (nI nr) (nI wh) (nI tl) (nI (ne - 1)) (nI nf) (nI na) (nI an) (nI tm) (nI cn) (nI cs) (nI bd) (nI lt) (nI nt) fx fy)) (h + 10) (.inl (ca 0, 5, .inl (iN (va_up (me 0) i (pp (ne - 1))))))) (h + 11) (.inl (ca 0, 5, .inl (iN (va_up (me 1) i (po (ne - 1))))))) (h + 12) (.inl (ca 0, 5, .inl (iN (va_up (me 2) i (pi (ne - 1) / 256)))))) H := hP
            have h_54 := gm_pass (k := (h + 12)) (y := .inl (ca 0, 5, .inl (iN (va_up (me 2) i (pi (ne - 1) / 256))))) h_39 (by omega)
            have h_55 := gm_pass (k := (h + 12)) (y := .inl (ca 0, 5, .inl (iN (va_up (me 2) i (pi (ne - 1) / 256))))) h_40 (gm_ne h_40 h_38 (fun h => by simp at h))
            have h_56 := gm_pass (k := (h + 12)) (y := .inl (ca 0, 5, .inl (iN (va_up (me 2) i (pi (ne - 1) / 256))))) h_41 (gm_ne h_41 h_38 (fun h => by simp at h))
            have h_57 := gm_pass (k := (h + 12)) (y := .inl (ca 0, 5, .inl (iN (va_up (me 2) i (pi (ne - 1) / 256))))) h_42 (gm_ne h_42 h_38 (fun h => by simp at h))
            have h_58 := gm_pass (k := (h + 12)) (y := .inl (ca 0, 5, .inl (iN (va_up (me 2) i (pi (ne - 1) / 256))))) h_43 (gm_ne h_43 h_38 (fun h => by simp at h))
            have h_59 := gm_pass (k := (h + 12)) (y := .inl (ca 0, 5, .inl (iN (va_up (me 2) i (pi (ne - 1) / 256))))) h_44 (gm_ne h_44 h_38 (fun h => by simp at h))
            have h_60 := gm_pass (k := (h + 12)) (y := .inl (ca 0, 5, .inl (iN (va_up (me 2) i (pi (ne - 1) / 256))))) h_45 (gm_ne h_45 h_38 (fun h => by simp at h))
            have h_61 := gm_pass (k := (h + 12)) (y := .inl (ca 0, 5, .inl (iN (va_up (me 2) i (pi (ne - 1) / 256))))) h_46 (gm_ne h_46 h_38 (fun h => by simp at h))
            have h_62 := gm_pass (k := (h + 12)) (y := .inl (ca 0, 5, .inl (iN (va_up (me 2) i (pi (ne - 1) / 256))))) h_47 (gm_ne h_47 h_38 (fun h => by simp at h))
            have h_63 := gm_pass (k := (h + 12)) (y := .inl (ca 0, 5, .inl (iN (va_up (me 2) i (pi (ne - 1) / 256))))) h_48 (gm_ne h_48 h_38 (fun h => by simp at h))
            have h_64 := gm_pass (k := (h + 12)) (y := .inl (ca 0, 5, .inl (iN (va_up (me 2) i (pi (ne - 1) / 256))))) h_49 (gm_ne h_49 h_38 (fun h => by simp at h))
            have h_65 := gm_pass (k := (h + 12)) (y := .inl (ca 0, 5, .inl (iN (va_up (me 2) i (pi (ne - 1) / 256))))) h_50 (gm_ne h_50 h_38 (fun h => by cases h))
            have h_66 := gm_pass (k := (h + 12)) (y := .inl (ca 0, 5, .inl (iN (va_up (me 2) i (pi (ne - 1) / 256))))) h_51 (by omega)
            have h_67 := gm_pass (k := (h + 12)) (y := .inl (ca 0, 5, .inl (iN (va_up (me 2) i (pi (ne - 1) / 256))))) h_52 (by omega)
            have h_68 := gm_up_self (gm_up (gm_up (gm_up M h (moO h (nI le) bp (nI nr) (nI wh) (nI tl) (nI (ne - 1)) (nI nf) (nI na) (nI an) (nI tm) (nI cn) (nI cs) (nI bd) (nI lt) (nI nt) fx fy)) (h + 10) (.inl (ca 0, 5, .inl (iN (va_up (me 0) i (pp (ne - 1))))))) (h + 11) (.inl (ca 0, 5, .inl (iN (va_up (me 1) i (po (ne - 1))))))) (h + 12) (.inl (ca 0, 5, .inl (iN (va_up (me 2) i (pi (ne - 1) / 256)))))
            refine lv_aload_n hx hb d_Mo_hide_88 rfl (lv_at hl 0 rfl) ?_
            refine gm_get (C := R_Mo) (T := F_Mo) (n := 44) hx hb htl i_Mo hown hK hP h_65 rfl 17 (by decide) (htl _ k_760) (fun _ h => h) rfl d_Mo_hide_89 ?_
            refine lv_iload_n hx hb d_Mo_hide_92 rfl (lv_at hl 3 rfl) ?_
            refine lv_aload_n hx hb d_Mo_hide_93 rfl (lv_at hl 0 rfl) ?_
            refine gm_get (C := R_Mo) (T := F_Mo) (n := 44) hx hb htl i_Mo hown hK hP h_65 rfl 17 (by decide) (htl _ k_760) (fun _ h => h) rfl d_Mo_hide_94 ?_
            refine lv_aload_n hx hb d_Mo_hide_97 rfl (lv_at hl 0 rfl) ?_
            refine gm_get (C := R_Mo) (T := F_Mo) (n := 44) hx hb htl i_Mo hown hK hP h_65 rfl 18 (by decide) (htl _ k_761) (fun _ h => h) rfl d_Mo_hide_98 ?_
            refine gz_iald hx hb hK hP 0 h_54 rfl (by omega) (by omega) d_Mo_hide_101 ?_
            rw [show (me 3) (ne - 1) = pi (ne - 1) % 256 from (hRE (ne - 1) (by omega)).2.2.2]
            have b_69 := hpi (ne - 1)
            refine gz_iast hx hb hK hP hS 0 h_54 rfl (by omega) (by omega) d_Mo_hide_102 (fun H locs hP hS => ?_)
            have hP : gm_P D cls A N (gm_up (gm_up (gm_up (gm_up (gm_up M h (moO h (nI le) bp (nI nr) (nI wh) (nI tl) (nI (ne - 1)) (nI nf) (nI na) (nI an) (nI tm) (nI cn) (nI cs) (nI bd) (nI lt) (nI nt) fx fy)) (h + 10) (.inl (ca 0, 5, .inl (iN (va_up (me 0) i (pp (ne - 1))))))) (h + 11) (.inl (ca 0, 5, .inl (iN (va_up (me 1) i (po (ne - 1))))))) (h + 12) (.inl (ca 0, 5, .inl (iN (va_up (me 2) i (pi (ne - 1) / 256)))))) (h + 13) (.inl (ca 0, 5, .inl (iN (va_up (me 3) i (pi (ne - 1) % 256)))))) H := hP
            have h_70 := gm_pass (k := (h + 13)) (y := .inl (ca 0, 5, .inl (iN (va_up (me 3) i (pi (ne - 1) % 256))))) h_55 (gm_ne h_55 h_54 (fun h => by simp at h))
            have h_71 := gm_pass (k := (h + 13)) (y := .inl (ca 0, 5, .inl (iN (va_up (me 3) i (pi (ne - 1) % 256))))) h_56 (gm_ne h_56 h_54 (fun h => by simp at h))
            have h_72 := gm_pass (k := (h + 13)) (y := .inl (ca 0, 5, .inl (iN (va_up (me 3) i (pi (ne - 1) % 256))))) h_57 (gm_ne h_57 h_54 (fun h => by simp at h))
            have h_73 := gm_pass (k := (h + 13)) (y := .inl (ca 0, 5, .inl (iN (va_up (me 3) i (pi (ne - 1) % 256))))) h_58 (gm_ne h_58 h_54 (fun h => by simp at h))
            have h_74 := gm_pass (k := (h + 13)) (y := .inl (ca 0, 5, .inl (iN (va_up (me 3) i (pi (ne - 1) % 256))))) h_59 (gm_ne h_59 h_54 (fun h => by simp at h))
            have h_75 := gm_pass (k := (h + 13)) (y := .inl (ca 0, 5, .inl (iN (va_up (me 3) i (pi (ne - 1) % 256))))) h_60 (gm_ne h_60 h_54 (fun h => by simp at h))
            have h_76 := gm_pass (k := (h + 13)) (y := .inl (ca 0, 5, .inl (iN (va_up (me 3) i (pi (ne - 1) % 256))))) h_61 (gm_ne h_61 h_54 (fun h => by simp at h))
            have h_77 := gm_pass (k := (h + 13)) (y := .inl (ca 0, 5, .inl (iN (va_up (me 3) i (pi (ne - 1) % 256))))) h_62 (gm_ne h_62 h_54 (fun h => by simp at h))
            have h_78 := gm_pass (k := (h + 13)) (y := .inl (ca 0, 5, .inl (iN (va_up (me 3) i (pi (ne - 1) % 256))))) h_63 (gm_ne h_63 h_54 (fun h => by simp at h))
            have h_79 := gm_pass (k := (h + 13)) (y := .inl (ca 0, 5, .inl (iN (va_up (me 3) i (pi (ne - 1) % 256))))) h_64 (gm_ne h_64 h_54 (fun h => by simp at h))
            have h_80 := gm_pass (k := (h + 13)) (y := .inl (ca 0, 5, .inl (iN (va_up (me 3) i (pi (ne - 1) % 256))))) h_65 (gm_ne h_65 h_54 (fun h => by cases h))
            have h_81 := gm_pass (k := (h + 13)) (y := .inl (ca 0, 5, .inl (iN (va_up (me 3) i (pi (ne - 1) % 256))))) h_66 (by omega)
            have h_82 := gm_pass (k := (h + 13)) (y := .inl (ca 0, 5, .inl (iN (va_up (me 3) i (pi (ne - 1) % 256))))) h_67 (by omega)
            have h_83 := gm_pass (k := (h + 13)) (y := .inl (ca 0, 5, .inl (iN (va_up (me 3) i (pi (ne - 1) % 256))))) h_68 (by omega)
            have h_84 := gm_up_self (gm_up (gm_up (gm_up (gm_up M h (moO h (nI le) bp (nI nr) (nI wh) (nI tl) (nI (ne - 1)) (nI nf) (nI na) (nI an) (nI tm) (nI cn) (nI cs) (nI bd) (nI lt) (nI nt) fx fy)) (h + 10) (.inl (ca 0, 5, .inl (iN (va_up (me 0) i (pp (ne - 1))))))) (h + 11) (.inl (ca 0, 5, .inl (iN (va_up (me 1) i (po (ne - 1))))))) (h + 12) (.inl (ca 0, 5, .inl (iN (va_up (me 2) i (pi (ne - 1) / 256)))))) (h + 13) (.inl (ca 0, 5, .inl (iN (va_up (me 3) i (pi (ne - 1) % 256)))))
            refine lv_aload_n hx hb d_Mo_hide_103 rfl (lv_at hl 0 rfl) ?_
            refine gm_get (C := R_Mo) (T := F_Mo) (n := 44) hx hb htl i_Mo hown hK hP h_80 rfl 29 (by decide) (htl _ k_772) (fun _ h => h) rfl d_Mo_hide_104 ?_
            refine lv_iconst (v := nI 1) hx hb d_Mo_hide_107 (by decide) ?_
            refine lv_isub hx hb d_Mo_hide_108 ?_
            refine lv_istore (lv' := [(4, .int (dn nf)), (0, .ref h), (1, .int (nI (pp i))), (2, .int (nI (po i))), (3, .int (nI i))]) hx hb d_Mo_hide_109 hl (by decide) rfl (fun ls hl => ?_)
            have loop_111 : ∀ (fu : Nat) (jd : Nat) (nv : Nat) (gv : Nat → Nat → Nat) (mv : Nat → Nat → Nat) (Mv : gm_M) (ls : Array Slot) (H : Heap) (locs : List Loc), (Mv h = some (moO h (nI le) bp (nI nr) (nI wh) (nI tl) (nI (ne - 1)) (nI nv) (nI na) (nI an) (nI tm) (nI cn) (nI cs) (nI bd) (nI lt) (nI nt) fx fy)) → (Mv (h + 14) = some (.inl (ca 0, 17, .inl (iN (mv 0))))) → (Mv (h + 15) = some (.inl (ca 0, 17, .inl (iN (mv 1))))) → (Mv (h + 16) = some (.inl (ca 0, 17, .inl (iN (mv 2))))) → (Mv (h + 17) = some (.inl (ca 0, 17, .inl (iN (mv 3))))) → (Mv (h + 18) = some (.inl (ca 0, 17, .inl (iN (mv 4))))) → (Mv (h + 19) = some (.inl (ca 0, 17, .inl (iN (mv 5))))) → (Mv (h + 20) = some (.inl (ca 0, 17, .inl (iN (mv 6))))) → (Mv (h + 21) = some (.inl (ca 0, 17, .inl (iN (mv 7))))) → (Mv (h + 22) = some (.inl (ca 0, 17, .inl (iN (mv 8))))) → (Mv (h + 23) = some (.inl (ca 0, 17, .inl (iN (mv 9))))) → (Mv (h + 10) = some (.inl (ca 0, 5, .inl (iN (va_up (me 0) i (pp (ne - 1))))))) → (Mv (h + 11) = some (.inl (ca 0, 5, .inl (iN (va_up (me 1) i (po (ne - 1))))))) → (Mv (h + 12) = some (.inl (ca 0, 5, .inl (iN (va_up (me 2) i (pi (ne - 1) / 256)))))) → (Mv (h + 13) = some (.inl (ca 0, 5, .inl (iN (va_up (me 3) i (pi (ne - 1) % 256)))))) → (jd ≤ nv ∧ nv ≤ nf) → (relF nv gv mv) → (okF gv) → (sweep (eP (pp i) (po i)) jd gv nv = sweep (eP (pp i) (po i)) nf fl nf) → (∀ z, z ≠ h → z ≠ (h + 10) → z ≠ (h + 11) → z ≠ (h + 12) → z ≠ (h + 13) → z ≠ (h + 14) → z ≠ (h + 15) → z ≠ (h + 16) → z ≠ (h + 17) → z ≠ (h + 18) → z ≠ (h + 19) → z ≠ (h + 20) → z ≠ (h + 21) → z ≠ (h + 22) → z ≠ (h + 23) → Mv z = M z) → jd < fu → gm_P D cls A N Mv H → va_S A s.heap H locs → lv_has ls 5 [(0, .ref h), (1, .int (nI (pp i))), (2, .int (nI (po i))), (4, .int (dn jd))] → W p l e ({ frames := 1, cells := 0, slots := 0, locals := 22 }) s m ([.ref h, .int (nI (pp i)), .int (nI (po i))] : List Value).toArray below meth c H locs (0) (0) Q (F0 m 111 ls []) := by
              intro fu
              induction fu with
              | zero => intro jd nv gv mv Mv ls H locs ehv m14v m15v m16v m17v m18v m19v m20v m21v m22v m23v m10v m11v m12v m13v hjn hRv hFv hsw hfrv hk; exact absurd hk (Nat.not_lt_zero _)
              | succ fu ih_111 =>
                intro jd nv gv mv Mv ls H locs ehv m14v m15v m16v m17v m18v m19v m20v m21v m22v m23v m10v m11v m12v m13v hjn hRv hFv hsw hfrv hk hP hS hl
                rcases jd with _ | qi
                · skip
                  rw [dn_0] at hl
                  refine lv_iload hx hb d_Mo_hide_111 (lv_at hl 3 rfl) ?_
                  refine lv_if_lt (tgt := 150) hx hb d_Mo_hide_113 (by decide) (fun _ => ?_) (fun q => absurd q (by decide))
                  refine lv_iconst (v := nI 0) hx hb d_Mo_hide_150 (by decide) ?_
                  rw [← hQ]
                  exact gc_iret hx hb hr hlk hP hS d_Mo_hide_151 ⟨rfl, Or.inr ⟨i, gv, nv, mkE (va_up (me 0) i (pp (ne - 1))) (va_up (me 1) i (po (ne - 1))) (va_up (me 2) i (pi (ne - 1) / 256)) (va_up (me 3) i (pi (ne - 1) % 256)), mv, by omega, ⟨rfl, rfl⟩, hno1, hsw.symm, hjn.2, hRv, relE_rm2 hRE (by omega), hFv, ehv, m10v, m11v, m12v, m13v, m14v, m15v, m16v, m17v, m18v, m19v, m20v, m21v, m22v, m23v, (fun z q0 q1 q2 q3 q4 q5 q6 q7 q8 q9 q10 q11 q12 q13 q14 => (hfrv z q0 q1 q2 q3 q4 q5 q6 q7 q8 q9 q10 q11 q12 q13 q14).trans (rfl)), rfl⟩⟩
                · skip
                  rw [dn_s] at hl
                  refine lv_iload hx hb d_Mo_hide_111 (lv_at hl 3 rfl) ?_
                  refine lz_lt (tgt := 150) hx hb d_Mo_hide_113 (by decide) (by omega) ?_
                  refine lv_aload_n hx hb d_Mo_hide_116 rfl (lv_at hl 0 rfl) ?_
                  refine gm_get (C := R_Mo) (T := F_Mo) (n := 44) hx hb htl i_Mo hown hK hP ehv rfl 20 (by decide) (htl _ k_763) (fun _ h => h) rfl d_Mo_hide_117 ?_
                  refine lv_iload hx hb d_Mo_hide_120 (lv_at hl 3 rfl) ?_
                  refine gz_iald hx hb hK hP 0 m15v rfl (by omega) (by omega) d_Mo_hide_122 ?_
                  rw [show (mv 1) qi = gv qi 0 from (hRv qi (by omega)).2.1]
                  have b_86 := (hFv qi).2
                  refine lv_iload_n hx hb d_Mo_hide_123 rfl (lv_at hl 1 rfl) ?_
                  refine ln_ne (tgt := 144) hx hb d_Mo_hide_124 (by decide) (by omega) (by omega) (fun c_87 => ?_) (fun c_87 => ?_)
                  · skip
                    refine lv_iinc (v := dn qi) (lv' := [(4, .int (dn qi)), (0, .ref h), (1, .int (nI (pp i))), (2, .int (nI (po i)))]) hx hb d_Mo_hide_144 hl (k := 3) rfl (dn_inc _) (by decide) rfl (fun ls hl => ?_)
                    refine lv_goto (tgt := 111) hx hb d_Mo_hide_147 (by decide) ?_
                    exact ih_111 qi nv gv mv _ ls _ _ ehv m14v m15v m16v m17v m18v m19v m20v m21v m22v m23v m10v m11v m12v m13v (⟨by omega, by omega⟩) hRv hFv ((sweep_f (decide_eq_false (by omega))).symm.trans hsw) (fun z r0 r1 r2 r3 r4 r5 r6 r7 r8 r9 r10 r11 r12 r13 r14 => (hfrv z r0 r1 r2 r3 r4 r5 r6 r7 r8 r9 r10 r11 r12 r13 r14).trans (rfl)) (by omega) hP hS (lv_sub hl [1, 2, 3, 0] rfl)
                  · skip
                    refine lv_aload_n hx hb d_Mo_hide_127 rfl (lv_at hl 0 rfl) ?_
                    refine gm_get (C := R_Mo) (T := F_Mo) (n := 44) hx hb htl i_Mo hown hK hP ehv rfl 25 (by decide) (htl _ k_768) (fun _ h => h) rfl d_Mo_hide_128 ?_
                    refine lv_iload hx hb d_Mo_hide_131 (lv_at hl 3 rfl) ?_
                    refine gz_iald hx hb hK hP 0 m20v rfl (by omega) (by omega) d_Mo_hide_133 ?_
                    rw [show (mv 6) qi = gv qi 3 from (hRv qi (by omega)).2.2.2.2.2.2.1]
                    have b_88 := (hFv qi).1 3
                    refine lv_iload_n hx hb d_Mo_hide_134 rfl (lv_at hl 2 rfl) ?_
                    refine ln_ne (tgt := 144) hx hb d_Mo_hide_135 (by decide) (by omega) (by omega) (fun c_89 => ?_) (fun c_89 => ?_)
                    · skip
                      refine lv_iinc (v := dn qi) (lv' := [(4, .int (dn qi)), (0, .ref h), (1, .int (nI (pp i))), (2, .int (nI (po i)))]) hx hb d_Mo_hide_144 hl (k := 3) rfl (dn_inc _) (by decide) rfl (fun ls hl => ?_)
                      refine lv_goto (tgt := 111) hx hb d_Mo_hide_147 (by decide) ?_
                      exact ih_111 qi nv gv mv _ ls _ _ ehv m14v m15v m16v m17v m18v m19v m20v m21v m22v m23v m10v m11v m12v m13v (⟨by omega, by omega⟩) hRv hFv ((sweep_f (decide_eq_false (by omega))).symm.trans hsw) (fun z r0 r1 r2 r3 r4 r5 r6 r7 r8 r9 r10 r11 r12 r13 r14 => (hfrv z r0 r1 r2 r3 r4 r5 r6 r7 r8 r9 r10 r11 r12 r13 r14).trans (rfl)) (by omega) hP hS (lv_sub hl [1, 2, 3, 0] rfl)
                    · skip
                      refine lv_aload_n hx hb d_Mo_hide_138 rfl (lv_at hl 0 rfl) ?_
                      refine lv_iload hx hb d_Mo_hide_139 (lv_at hl 3 rfl) ?_
                      refine gc_V (q := (R_Mo, F_Mo, 44)) (n := 1) [.int (nI qi)] [] hx hb hml hown hts hK hN hX hP hS (c_Mo_endFlow ehv m14v m15v m16v m17v m18v m19v m20v m21v m22v m23v (by omega) (by omega)) rfl ehv k_944 k_946 ks_Mo_endFlow k_10 k_947 (by decide +kernel) ⟨by decide, by decide⟩ rfl hl.1 rfl (Nat.le_of_ble_eq_true rfl) d_Mo_hide_141 ⟨by decide, by decide⟩ (fun r N1 M_90 H locs hw hP hS => ?_)
                      obtain ⟨rfl, hw⟩ := hw
                      obtain ⟨h_91, h_92, h_93, h_94, h_95, h_96, h_97, h_98, h_99, h_100, h_101, hfr_102⟩ := hw
                      have h_103 := (hfr_102 _ (gm_ne m10v ehv (fun h => by cases h)) (gm_ne m10v m14v (fun h => by simp at h)) (gm_ne m10v m15v (fun h => by simp at h)) (gm_ne m10v m16v (fun h => by simp at h)) (gm_ne m10v m17v (fun h => by simp at h)) (gm_ne m10v m18v (fun h => by simp at h)) (gm_ne m10v m19v (fun h => by simp at h)) (gm_ne m10v m20v (fun h => by simp at h)) (gm_ne m10v m21v (fun h => by simp at h)) (gm_ne m10v m22v (fun h => by simp at h)) (gm_ne m10v m23v (fun h => by simp at h))).trans m10v
                      have h_104 := (hfr_102 _ (gm_ne m11v ehv (fun h => by cases h)) (gm_ne m11v m14v (fun h => by simp at h)) (gm_ne m11v m15v (fun h => by simp at h)) (gm_ne m11v m16v (fun h => by simp at h)) (gm_ne m11v m17v (fun h => by simp at h)) (gm_ne m11v m18v (fun h => by simp at h)) (gm_ne m11v m19v (fun h => by simp at h)) (gm_ne m11v m20v (fun h => by simp at h)) (gm_ne m11v m21v (fun h => by simp at h)) (gm_ne m11v m22v (fun h => by simp at h)) (gm_ne m11v m23v (fun h => by simp at h))).trans m11v
                      have h_105 := (hfr_102 _ (gm_ne m12v ehv (fun h => by cases h)) (gm_ne m12v m14v (fun h => by simp at h)) (gm_ne m12v m15v (fun h => by simp at h)) (gm_ne m12v m16v (fun h => by simp at h)) (gm_ne m12v m17v (fun h => by simp at h)) (gm_ne m12v m18v (fun h => by simp at h)) (gm_ne m12v m19v (fun h => by simp at h)) (gm_ne m12v m20v (fun h => by simp at h)) (gm_ne m12v m21v (fun h => by simp at h)) (gm_ne m12v m22v (fun h => by simp at h)) (gm_ne m12v m23v (fun h => by simp at h))).trans m12v
                      have h_106 := (hfr_102 _ (gm_ne m13v ehv (fun h => by cases h)) (gm_ne m13v m14v (fun h => by simp at h)) (gm_ne m13v m15v (fun h => by simp at h)) (gm_ne m13v m16v (fun h => by simp at h)) (gm_ne m13v m17v (fun h => by simp at h)) (gm_ne m13v m18v (fun h => by simp at h)) (gm_ne m13v m19v (fun h => by simp at h)) (gm_ne m13v m20v (fun h => by simp at h)) (gm_ne m13v m21v (fun h => by simp at h)) (gm_ne m13v m22v (fun h => by simp at h)) (gm_ne m13v m23v (fun h => by simp at h))).trans m13v
                      refine W.eq (g2 := F0 m 144 ls []) rfl ?_
                      refine lv_iinc (v := dn qi) (lv' := [(4, .int (dn qi)), (0, .ref h), (1, .int (nI (pp i))), (2, .int (nI (po i)))]) hx hb d_Mo_hide_144 hl (k := 3) rfl (dn_inc _) (by decide) rfl (fun ls hl => ?_)
                      refine lv_goto (tgt := 111) hx hb d_Mo_hide_147 (by decide) ?_
                      exact ih_111 qi (nv - 1) (rot gv qi nv) (shQ mv qi nv) _ ls _ _ h_91 h_92 h_93 h_94 h_95 h_96 h_97 h_98 h_99 h_100 h_101 h_103 h_104 h_105 h_106 (⟨by omega, by omega⟩) (relF_rm hRv (by omega)) (okF_rot hFv) ((sweep_t (decide_eq_true (by omega))).symm.trans hsw) (fun z r0 r1 r2 r3 r4 r5 r6 r7 r8 r9 r10 r11 r12 r13 r14 => (hfr_102 z r0 r5 r6 r7 r8 r9 r10 r11 r12 r13 r14).trans ((hfrv z r0 r1 r2 r3 r4 r5 r6 r7 r8 r9 r10 r11 r12 r13 r14).trans (rfl))) (by omega) hP hS (lv_sub hl [1, 2, 3, 0] rfl)
            exact loop_111 (_ + 1) nf nf fl mq _ ls _ locs h_80 h_70 h_71 h_72 h_73 h_74 h_75 h_76 h_77 h_78 h_79 h_81 h_82 h_83 h_84 (⟨Nat.le_refl _, Nat.le_refl _⟩) hRF hF rfl (fun z r0 r1 r2 r3 r4 r5 r6 r7 r8 r9 r10 r11 r12 r13 r14 => (gm_up_ne _ _ r4).trans ((gm_up_ne _ _ r3).trans ((gm_up_ne _ _ r2).trans ((gm_up_ne _ _ r1).trans ((gm_up_ne _ _ r0).trans (rfl)))))) (Nat.lt_succ_self _) hP hS (lv_sub hl [1, 2, 3, 0] rfl)
          · skip
            refine lv_goto (tgt := 152) hx hb d_Mo_hide_30 (by decide) ?_
            refine lv_iinc (v := nI (i + 1)) (lv' := [(3, .int (nI (i + 1))), (0, .ref h), (1, .int y), (2, .int y2)]) hx hb d_Mo_hide_152 hl (k := 3) rfl (nI_1 i) (by decide) rfl (fun ls hl => ?_)
            refine lv_goto (tgt := 2) hx hb d_Mo_hide_155 (by decide) ?_
            exact ih_2 (i + 1) ls _ _ (by omega) (fun z hz => by by_cases q : z = i; subst q; (first | exact fun q0 => absurd q0.1 (by assumption) | exact fun q0 => absurd q0.2 (by assumption)); exact hno1 z (by omega)) (by omega) hP hS (lv_sub hl [1, 2, 3, 0] rfl)
  exact loop_2 (_ + 1) 0 ls _ _ (Nat.zero_le _) (fun z hz => absurd hz (Nat.not_lt_zero _)) (Nat.lt_succ_self _) hP hS (lv_sub hl [1, 2, 3, 0] rfl)
set_option maxHeartbeats 4000000 in
set_option maxRecDepth 100000 in
theorem c_Mo_flowOf {h le nr tl ne nf na an tm cn cs bd lt nt wh : Nat} {bp fx fy : Int32} {mq : Nat → Nat → Nat} {fl : Nat → Nat → Nat} {pr0 i0 o0 a0 b0 c0 d0 : Nat} (eh : M h = some (moO h (nI le) bp (nI nr) (nI wh) (nI tl) (nI ne) (nI nf) (nI na) (nI an) (nI tm) (nI cn) (nI cs) (nI bd) (nI lt) (nI nt) fx fy)) (m14 : M (h + 14) = some (.inl (ca 0, 17, .inl (iN (mq 0))))) (m15 : M (h + 15) = some (.inl (ca 0, 17, .inl (iN (mq 1))))) (m16 : M (h + 16) = some (.inl (ca 0, 17, .inl (iN (mq 2))))) (m17 : M (h + 17) = some (.inl (ca 0, 17, .inl (iN (mq 3))))) (m18 : M (h + 18) = some (.inl (ca 0, 17, .inl (iN (mq 4))))) (m19 : M (h + 19) = some (.inl (ca 0, 17, .inl (iN (mq 5))))) (m20 : M (h + 20) = some (.inl (ca 0, 17, .inl (iN (mq 6))))) (m21 : M (h + 21) = some (.inl (ca 0, 17, .inl (iN (mq 7))))) (m22 : M (h + 22) = some (.inl (ca 0, 17, .inl (iN (mq 8))))) (m23 : M (h + 23) = some (.inl (ca 0, 17, .inl (iN (mq 9))))) (hRF : relF nf fl mq) (hnf : nf ≤ 16) (hF : okF fl) (hpr0 : pr0 < 65536) (hi0 : i0 < 65536) (ho0 : o0 < 65536) (hab : i0 / 256 = a0 ∧ i0 % 256 = b0 ∧ o0 / 256 = c0 ∧ o0 % 256 = d0) : gC l D ca A G y_Mo_flowOf (.code y_Mo_flowOf b_Mo_flowOf 8 (some .int)) ({ frames := 0, cells := 0, slots := 0, locals := 0 }) N M [.ref h, .int (nI pr0), .int (nI a0), .int (nI b0), .int (nI c0), .int (nI d0)] gm_i (fun (r : Int32) (N1 : Nat) (M1 : gm_M) => N = N1 ∧ ((∃ (k : Nat), (ffP (fun k => fl k 0 = pr0 ∧ fl k 1 = i0 ∧ fl k 2 = o0) nf = some k) ∧ (k < nf) ∧ M = M1 ∧ nI k = r) ∨ ((ffP (fun k => fl k 0 = pr0 ∧ fl k 1 = i0 ∧ fl k 2 = o0) nf = none) ∧ M = M1 ∧ (-1) = r))) := by
  refine gm_body (by decide) (Nat.le_of_ble_eq_true rfl) (fun p e s m below meth c ls hx hb hr hts hown hlk hml hnm hP hK hN hX hS hl => ?_)
  have htl : ∀ w ∈ LW, w.before _ s = true := fun w h => hts w (List.mem_cons_of_mem _ h)
  have hown : s.vm.findClass "PacketGateModel" = some m.cls := hown
  have hl : lv_has ls 8 [(0, .ref h), (1, .int (nI pr0)), (2, .int (nI a0)), (3, .int (nI b0)), (4, .int (nI c0)), (5, .int (nI d0))] := hl
  generalize hQ : MQ below _ _ s _ _ A = Q
  refine lv_iconst (v := nI 0) hx hb d_Mo_flowOf_0 (by decide) ?_
  refine lv_istore (lv' := [(6, .int (nI 0)), (0, .ref h), (1, .int (nI pr0)), (2, .int (nI a0)), (3, .int (nI b0)), (4, .int (nI c0)), (5, .int (nI d0))]) hx hb d_Mo_flowOf_1 hl (by decide) rfl (fun ls hl => ?_)
  have loop_3 : ∀ (fu : Nat) (i : Nat) (ls : Array Slot) (H : Heap) (locs : List Loc), (i ≤ nf) → (∀ z, z < i → ¬ (fl z 0 = pr0 ∧ fl z 1 = i0 ∧ fl z 2 = o0)) → (nf - i) < fu → gm_P D cls A N M H → va_S A s.heap H locs → lv_has ls 8 [(0, .ref h), (1, .int (nI pr0)), (2, .int (nI a0)), (3, .int (nI b0)), (4, .int (nI c0)), (5, .int (nI d0)), (6, .int (nI i))] → W p l e ({ frames := 0, cells := 0, slots := 0, locals := 0 }) s m ([.ref h, .int (nI pr0), .int (nI a0), .int (nI b0), .int (nI c0), .int (nI d0)] : List Value).toArray below meth c H locs (0) (0) Q (F0 m 3 ls []) := by
    intro fu
    induction fu with
    | zero => intro i ls H locs hi hno1 hk; exact absurd hk (Nat.not_lt_zero _)
    | succ fu ih_3 =>
      intro i ls H locs hi hno1 hk hP hS hl
      refine lv_iload hx hb d_Mo_flowOf_3 (lv_at hl 6 rfl) ?_
      refine lv_aload_n hx hb d_Mo_flowOf_5 rfl (lv_at hl 0 rfl) ?_
      refine gm_get (C := R_Mo) (T := F_Mo) (n := 44) hx hb htl i_Mo hown hK hP eh rfl 29 (by decide) (htl _ k_772) (fun _ h => h) rfl d_Mo_flowOf_6 ?_
      refine ln_ge (tgt := 90) hx hb d_Mo_flowOf_9 (by decide) (by omega) (by omega) (fun c_1 => ?_) (fun c_1 => ?_)
      · skip
        refine lv_iconst (v := (-1)) hx hb d_Mo_flowOf_90 (by decide) ?_
        rw [← hQ]
        exact gc_iret hx hb hr hlk hP hS d_Mo_flowOf_91 ⟨rfl, Or.inr ⟨ffP_none (P := fun k => fl k 0 = pr0 ∧ fl k 1 = i0 ∧ fl k 2 = o0) (fun z hz => hno1 z (by omega)), rfl, rfl⟩⟩
      · skip
        refine lv_aload_n hx hb d_Mo_flowOf_12 rfl (lv_at hl 0 rfl) ?_
        refine gm_get (C := R_Mo) (T := F_Mo) (n := 44) hx hb htl i_Mo hown hK hP eh rfl 21 (by decide) (htl _ k_764) (fun _ h => h) rfl d_Mo_flowOf_13 ?_
        refine lv_iload hx hb d_Mo_flowOf_16 (lv_at hl 6 rfl) ?_
        refine gz_iald hx hb hK hP 0 m16 rfl (by omega) (by omega) d_Mo_flowOf_18 ?_
        rw [show (mq 2) i = fl i 1 / 256 from (hRF i (by omega)).2.2.1]
        have b_2 := (hF i).2
        refine lv_iload_n hx hb d_Mo_flowOf_19 rfl (lv_at hl 2 rfl) ?_
        refine ln_ne (tgt := 62) hx hb d_Mo_flowOf_20 (by decide) (by omega) (by omega) (fun c_3 => ?_) (fun c_3 => ?_)
        · skip
          refine lv_iconst (v := nI 0) hx hb d_Mo_flowOf_62 (by decide) ?_
          refine lv_istore (lv' := [(7, .int (nI 0)), (0, .ref h), (1, .int (nI pr0)), (2, .int (nI a0)), (3, .int (nI b0)), (4, .int (nI c0)), (5, .int (nI d0)), (6, .int (nI i))]) hx hb d_Mo_flowOf_63 hl (by decide) rfl (fun ls hl => ?_)
          refine lv_iload hx hb d_Mo_flowOf_65 (lv_at hl 0 rfl) ?_
          refine lv_if_eq (tgt := 84) hx hb d_Mo_flowOf_67 (by decide) (fun _ => ?_) (fun q => absurd q (by decide))
          refine lv_iinc (v := nI (i + 1)) (lv' := [(6, .int (nI (i + 1))), (7, .int (nI 0)), (0, .ref h), (1, .int (nI pr0)), (2, .int (nI a0)), (3, .int (nI b0)), (4, .int (nI c0)), (5, .int (nI d0))]) hx hb d_Mo_flowOf_84 hl (k := 7) rfl (nI_1 i) (by decide) rfl (fun ls hl => ?_)
          refine lv_goto (tgt := 3) hx hb d_Mo_flowOf_87 (by decide) ?_
          exact ih_3 (i + 1) ls _ _ (by omega) (fun z hz => by by_cases q : z = i; subst q; omega; exact hno1 z (by omega)) (by omega) hP hS (lv_sub hl [2, 3, 4, 5, 6, 7, 0] rfl)
        · skip
          refine lv_aload_n hx hb d_Mo_flowOf_23 rfl (lv_at hl 0 rfl) ?_
          refine gm_get (C := R_Mo) (T := F_Mo) (n := 44) hx hb htl i_Mo hown hK hP eh rfl 22 (by decide) (htl _ k_765) (fun _ h => h) rfl d_Mo_flowOf_24 ?_
          refine lv_iload hx hb d_Mo_flowOf_27 (lv_at hl 6 rfl) ?_
          refine gz_iald hx hb hK hP 0 m17 rfl (by omega) (by omega) d_Mo_flowOf_29 ?_
          rw [show (mq 3) i = fl i 1 % 256 from (hRF i (by omega)).2.2.2.1]
          have b_4 := (hF i).2
          refine lv_iload_n hx hb d_Mo_flowOf_30 rfl (lv_at hl 3 rfl) ?_
          refine ln_ne (tgt := 62) hx hb d_Mo_flowOf_31 (by decide) (by omega) (by omega) (fun c_5 => ?_) (fun c_5 => ?_)
          · skip
            refine lv_iconst (v := nI 0) hx hb d_Mo_flowOf_62 (by decide) ?_
            refine lv_istore (lv' := [(7, .int (nI 0)), (0, .ref h), (1, .int (nI pr0)), (2, .int (nI a0)), (3, .int (nI b0)), (4, .int (nI c0)), (5, .int (nI d0)), (6, .int (nI i))]) hx hb d_Mo_flowOf_63 hl (by decide) rfl (fun ls hl => ?_)
            refine lv_iload hx hb d_Mo_flowOf_65 (lv_at hl 0 rfl) ?_
            refine lv_if_eq (tgt := 84) hx hb d_Mo_flowOf_67 (by decide) (fun _ => ?_) (fun q => absurd q (by decide))
            refine lv_iinc (v := nI (i + 1)) (lv' := [(6, .int (nI (i + 1))), (7, .int (nI 0)), (0, .ref h), (1, .int (nI pr0)), (2, .int (nI a0)), (3, .int (nI b0)), (4, .int (nI c0)), (5, .int (nI d0))]) hx hb d_Mo_flowOf_84 hl (k := 7) rfl (nI_1 i) (by decide) rfl (fun ls hl => ?_)
            refine lv_goto (tgt := 3) hx hb d_Mo_flowOf_87 (by decide) ?_
            exact ih_3 (i + 1) ls _ _ (by omega) (fun z hz => by by_cases q : z = i; subst q; omega; exact hno1 z (by omega)) (by omega) hP hS (lv_sub hl [2, 3, 4, 5, 6, 7, 0] rfl)
          · skip
            refine lv_aload_n hx hb d_Mo_flowOf_34 rfl (lv_at hl 0 rfl) ?_
            refine gm_get (C := R_Mo) (T := F_Mo) (n := 44) hx hb htl i_Mo hown hK hP eh rfl 23 (by decide) (htl _ k_766) (fun _ h => h) rfl d_Mo_flowOf_35 ?_
            refine lv_iload hx hb d_Mo_flowOf_38 (lv_at hl 6 rfl) ?_
            refine gz_iald hx hb hK hP 0 m18 rfl (by omega) (by omega) d_Mo_flowOf_40 ?_
            rw [show (mq 4) i = fl i 2 / 256 from (hRF i (by omega)).2.2.2.2.1]
            have b_6 := (hF i).2
            refine lv_iload hx hb d_Mo_flowOf_41 (lv_at hl 4 rfl) ?_
            refine ln_ne (tgt := 62) hx hb d_Mo_flowOf_43 (by decide) (by omega) (by omega) (fun c_7 => ?_) (fun c_7 => ?_)
            · skip
              refine lv_iconst (v := nI 0) hx hb d_Mo_flowOf_62 (by decide) ?_
              refine lv_istore (lv' := [(7, .int (nI 0)), (0, .ref h), (1, .int (nI pr0)), (2, .int (nI a0)), (3, .int (nI b0)), (4, .int (nI c0)), (5, .int (nI d0)), (6, .int (nI i))]) hx hb d_Mo_flowOf_63 hl (by decide) rfl (fun ls hl => ?_)
              refine lv_iload hx hb d_Mo_flowOf_65 (lv_at hl 0 rfl) ?_
              refine lv_if_eq (tgt := 84) hx hb d_Mo_flowOf_67 (by decide) (fun _ => ?_) (fun q => absurd q (by decide))
              refine lv_iinc (v := nI (i + 1)) (lv' := [(6, .int (nI (i + 1))), (7, .int (nI 0)), (0, .ref h), (1, .int (nI pr0)), (2, .int (nI a0)), (3, .int (nI b0)), (4, .int (nI c0)), (5, .int (nI d0))]) hx hb d_Mo_flowOf_84 hl (k := 7) rfl (nI_1 i) (by decide) rfl (fun ls hl => ?_)
              refine lv_goto (tgt := 3) hx hb d_Mo_flowOf_87 (by decide) ?_
              exact ih_3 (i + 1) ls _ _ (by omega) (fun z hz => by by_cases q : z = i; subst q; omega; exact hno1 z (by omega)) (by omega) hP hS (lv_sub hl [2, 3, 4, 5, 6, 7, 0] rfl)
            · skip
              refine lv_aload_n hx hb d_Mo_flowOf_46 rfl (lv_at hl 0 rfl) ?_
              refine gm_get (C := R_Mo) (T := F_Mo) (n := 44) hx hb htl i_Mo hown hK hP eh rfl 24 (by decide) (htl _ k_767) (fun _ h => h) rfl d_Mo_flowOf_47 ?_
              refine lv_iload hx hb d_Mo_flowOf_50 (lv_at hl 6 rfl) ?_
              refine gz_iald hx hb hK hP 0 m19 rfl (by omega) (by omega) d_Mo_flowOf_52 ?_
              rw [show (mq 5) i = fl i 2 % 256 from (hRF i (by omega)).2.2.2.2.2.1]
              have b_8 := (hF i).2
              refine lv_iload hx hb d_Mo_flowOf_53 (lv_at hl 5 rfl) ?_
              refine ln_ne (tgt := 62) hx hb d_Mo_flowOf_55 (by decide) (by omega) (by omega) (fun c_9 => ?_) (fun c_9 => ?_)
              · skip
                refine lv_iconst (v := nI 0) hx hb d_Mo_flowOf_62 (by decide) ?_
                refine lv_istore (lv' := [(7, .int (nI 0)), (0, .ref h), (1, .int (nI pr0)), (2, .int (nI a0)), (3, .int (nI b0)), (4, .int (nI c0)), (5, .int (nI d0)), (6, .int (nI i))]) hx hb d_Mo_flowOf_63 hl (by decide) rfl (fun ls hl => ?_)
                refine lv_iload hx hb d_Mo_flowOf_65 (lv_at hl 0 rfl) ?_
                refine lv_if_eq (tgt := 84) hx hb d_Mo_flowOf_67 (by decide) (fun _ => ?_) (fun q => absurd q (by decide))
                refine lv_iinc (v := nI (i + 1)) (lv' := [(6, .int (nI (i + 1))), (7, .int (nI 0)), (0, .ref h), (1, .int (nI pr0)), (2, .int (nI a0)), (3, .int (nI b0)), (4, .int (nI c0)), (5, .int (nI d0))]) hx hb d_Mo_flowOf_84 hl (k := 7) rfl (nI_1 i) (by decide) rfl (fun ls hl => ?_)
                refine lv_goto (tgt := 3) hx hb d_Mo_flowOf_87 (by decide) ?_
                exact ih_3 (i + 1) ls _ _ (by omega) (fun z hz => by by_cases q : z = i; subst q; omega; exact hno1 z (by omega)) (by omega) hP hS (lv_sub hl [2, 3, 4, 5, 6, 7, 0] rfl)
              · skip
                refine lv_iconst (v := nI 1) hx hb d_Mo_flowOf_58 (by decide) ?_
                refine lv_goto (tgt := 63) hx hb d_Mo_flowOf_59 (by decide) ?_
                refine lv_istore (lv' := [(7, .int (nI 1)), (0, .ref h), (1, .int (nI pr0)), (2, .int (nI a0)), (3, .int (nI b0)), (4, .int (nI c0)), (5, .int (nI d0)), (6, .int (nI i))]) hx hb d_Mo_flowOf_63 hl (by decide) rfl (fun ls hl => ?_)
                refine lv_iload hx hb d_Mo_flowOf_65 (lv_at hl 0 rfl) ?_
                refine lv_if_eq (tgt := 84) hx hb d_Mo_flowOf_67 (by decide) (fun q => absurd q (by decide)) (fun _ => ?_)
                refine lv_aload_n hx hb d_Mo_flowOf_70 rfl (lv_at hl 1 rfl) ?_
                refine gm_get (C := R_Mo) (T := F_Mo) (n := 44) hx hb htl i_Mo hown hK hP eh rfl 20 (by decide) (htl _ k_763) (fun _ h => h) rfl d_Mo_flowOf_71 ?_
                refine lv_iload hx hb d_Mo_flowOf_74 (lv_at hl 7 rfl) ?_
                refine gz_iald hx hb hK hP 0 m15 rfl (by omega) (by omega) d_Mo_flowOf_76 ?_
                rw [show (mq 1) i = fl i 0 from (hRF i (by omega)).2.1]
                have b_10 := (hF i).2
                refine lv_iload_n hx hb d_Mo_flowOf_77 rfl (lv_at hl 2 rfl) ?_
                refine ln_ne (tgt := 84) hx hb d_Mo_flowOf_78 (by decide) (by omega) (by omega) (fun c_11 => ?_) (fun c_11 => ?_)
                · skip
                  refine lv_iinc (v := nI (i + 1)) (lv' := [(6, .int (nI (i + 1))), (7, .int (nI 1)), (0, .ref h), (1, .int (nI pr0)), (2, .int (nI a0)), (3, .int (nI b0)), (4, .int (nI c0)), (5, .int (nI d0))]) hx hb d_Mo_flowOf_84 hl (k := 7) rfl (nI_1 i) (by decide) rfl (fun ls hl => ?_)
                  refine lv_goto (tgt := 3) hx hb d_Mo_flowOf_87 (by decide) ?_
                  exact ih_3 (i + 1) ls _ _ (by omega) (fun z hz => by by_cases q : z = i; subst q; omega; exact hno1 z (by omega)) (by omega) hP hS (lv_sub hl [2, 3, 4, 5, 6, 7, 0] rfl)
                · skip
                  refine lv_iload hx hb d_Mo_flowOf_81 (lv_at hl 7 rfl) ?_
                  rw [← hQ]
                  exact gc_iret hx hb hr hlk hP hS d_Mo_flowOf_83 ⟨rfl, Or.inl ⟨i, ffP_some (P := fun k => fl k 0 = pr0 ∧ fl k 1 = i0 ∧ fl k 2 = o0) (by omega) (by omega) hno1, by omega, rfl, rfl⟩⟩
  exact loop_3 (_ + 1) 0 ls _ _ (Nat.zero_le _) (fun z hz => absurd hz (Nat.not_lt_zero _)) (Nat.lt_succ_self _) hP hS (lv_sub hl [1, 2, 3, 4, 5, 6, 0] rfl)
set_option maxHeartbeats 4000000 in
set_option maxRecDepth 100000 in
theorem c_Mo_next {h le nr tl ne nf na an tm cn cs bd lt nt wh : Nat} {bp fx fy : Int32} {mq : Nat → Nat → Nat} {fl : Nat → Nat → Nat} {k sd f0 : Nat} (eh : M h = some (moO h (nI le) bp (nI nr) (nI wh) (nI tl) (nI ne) (nI nf) (nI na) (nI an) (nI tm) (nI cn) (nI cs) (nI bd) (nI lt) (nI nt) fx fy)) (m14 : M (h + 14) = some (.inl (ca 0, 17, .inl (iN (mq 0))))) (m15 : M (h + 15) = some (.inl (ca 0, 17, .inl (iN (mq 1))))) (m16 : M (h + 16) = some (.inl (ca 0, 17, .inl (iN (mq 2))))) (m17 : M (h + 17) = some (.inl (ca 0, 17, .inl (iN (mq 3))))) (m18 : M (h + 18) = some (.inl (ca 0, 17, .inl (iN (mq 4))))) (m19 : M (h + 19) = some (.inl (ca 0, 17, .inl (iN (mq 5))))) (m20 : M (h + 20) = some (.inl (ca 0, 17, .inl (iN (mq 6))))) (m21 : M (h + 21) = some (.inl (ca 0, 17, .inl (iN (mq 7))))) (m22 : M (h + 22) = some (.inl (ca 0, 17, .inl (iN (mq 8))))) (m23 : M (h + 23) = some (.inl (ca 0, 17, .inl (iN (mq 9))))) (hRF : relF nf fl mq) (hnf : nf ≤ 16) (hF : okF fl) (hk0 : k < nf) (hsd : sd ≤ 1) (hf0 : f0 ≤ 15) : gC l D ca A G y_Mo_next (.code y_Mo_next b_Mo_next 9 (some .int)) ({ frames := 0, cells := 0, slots := 0, locals := 0 }) N M [.ref h, .int (nI k), .int (nI sd), .int (nI f0)] gm_i (fun (r : Int32) (N1 : Nat) (M1 : gm_M) => N = N1 ∧ M = M1 ∧ nI (nxS (fl k 6) (fl k 7) (fl k 4) sd f0) = r) := by
  refine gm_body (by decide) (Nat.le_of_ble_eq_true rfl) (fun p e s m below meth c ls hx hb hr hts hown hlk hml hnm hP hK hN hX hS hl => ?_)
  have htl : ∀ w ∈ LW, w.before _ s = true := fun w h => hts w (List.mem_cons_of_mem _ h)
  have hown : s.vm.findClass "PacketGateModel" = some m.cls := hown
  have hl : lv_has ls 9 [(0, .ref h), (1, .int (nI k)), (2, .int (nI sd)), (3, .int (nI f0))] := hl
  generalize hQ : MQ below _ _ s _ _ A = Q
  have hf1 := and_lt f0 1 (by decide)
  have hf2 := and_lt f0 2 (by decide)
  have hf4 := and_lt f0 4 (by decide)
  refine w_cut (α := Nat) (P := fun sy => sy = bitN f0 1 ∧ sy ≤ 1) (nL := 9) (lv := fun sy => [(0, .ref h), (1, .int (nI k)), (2, .int (nI sd)), (3, .int (nI f0))]) (pc2 := 11) (st2 := fun sy => [.int (nI sy)]) (fun sy ls hl hj_11 => ?_) (fun jn_11 => ?_)
  · skip
    have hl : lv_has ls 9 [(0, .ref h), (1, .int (nI k)), (2, .int (nI sd)), (3, .int (nI f0))] := hl
    have hj_11 : sy = bitN f0 1 ∧ sy ≤ 1 := hj_11
    refine W.eq (g2 := F0 m 11 ls [.int (nI sy)]) rfl ?_
    refine lv_istore (lv' := [(4, .int (nI sy)), (0, .ref h), (1, .int (nI k)), (2, .int (nI sd)), (3, .int (nI f0))]) hx hb d_Mo_next_11 hl (by decide) rfl (fun ls hl => ?_)
    refine w_cut (α := Nat) (P := fun ak => ak = bitN f0 2 ∧ ak ≤ 1) (nL := 9) (lv := fun ak => [(0, .ref h), (1, .int (nI k)), (2, .int (nI sd)), (3, .int (nI f0)), (4, .int (nI sy))]) (pc2 := 24) (st2 := fun ak => [.int (nI ak)]) (fun ak ls hl hj_24 => ?_) (fun jn_24 => ?_)
    · skip
      have hl : lv_has ls 9 [(0, .ref h), (1, .int (nI k)), (2, .int (nI sd)), (3, .int (nI f0)), (4, .int (nI sy))] := hl
      have hj_24 : ak = bitN f0 2 ∧ ak ≤ 1 := hj_24
      refine W.eq (g2 := F0 m 24 ls [.int (nI ak)]) rfl ?_
      refine lv_istore (lv' := [(5, .int (nI ak)), (0, .ref h), (1, .int (nI k)), (2, .int (nI sd)), (3, .int (nI f0)), (4, .int (nI sy))]) hx hb d_Mo_next_24 hl (by decide) rfl (fun ls hl => ?_)
      refine w_cut (α := Nat) (P := fun fi => fi = bitN f0 4 ∧ fi ≤ 1) (nL := 9) (lv := fun fi => [(0, .ref h), (1, .int (nI k)), (2, .int (nI sd)), (3, .int (nI f0)), (4, .int (nI sy)), (5, .int (nI ak))]) (pc2 := 37) (st2 := fun fi => [.int (nI fi)]) (fun fi ls hl hj_37 => ?_) (fun jn_37 => ?_)
      · skip
        have hl : lv_has ls 9 [(0, .ref h), (1, .int (nI k)), (2, .int (nI sd)), (3, .int (nI f0)), (4, .int (nI sy)), (5, .int (nI ak))] := hl
        have hj_37 : fi = bitN f0 4 ∧ fi ≤ 1 := hj_37
        refine W.eq (g2 := F0 m 37 ls [.int (nI fi)]) rfl ?_
        refine lv_istore (lv' := [(6, .int (nI fi)), (0, .ref h), (1, .int (nI k)), (2, .int (nI sd)), (3, .int (nI f0)), (4, .int (nI sy)), (5, .int (nI ak))]) hx hb d_Mo_next_37 hl (by decide) rfl (fun ls hl => ?_)
        refine w_cut (α := Nat) (P := fun op => op = (if sd = 1 - fl k 6 then 1 else 0) ∧ op ≤ 1) (nL := 9) (lv := fun op => [(0, .ref h), (1, .int (nI k)), (2, .int (nI sd)), (3, .int (nI f0)), (4, .int (nI sy)), (5, .int (nI ak)), (6, .int (nI fi))]) (pc2 := 54) (st2 := fun op => [.int (nI op)]) (fun op ls hl hj_54 => ?_) (fun jn_54 => ?_)
        · skip
          have hl : lv_has ls 9 [(0, .ref h), (1, .int (nI k)), (2, .int (nI sd)), (3, .int (nI f0)), (4, .int (nI sy)), (5, .int (nI ak)), (6, .int (nI fi))] := hl
          have hj_54 : op = (if sd = 1 - fl k 6 then 1 else 0) ∧ op ≤ 1 := hj_54
          refine W.eq (g2 := F0 m 54 ls [.int (nI op)]) rfl ?_
          refine lv_istore (lv' := [(7, .int (nI op)), (0, .ref h), (1, .int (nI k)), (2, .int (nI sd)), (3, .int (nI f0)), (4, .int (nI sy)), (5, .int (nI ak)), (6, .int (nI fi))]) hx hb d_Mo_next_54 hl (by decide) rfl (fun ls hl => ?_)
          refine lv_aload_n hx hb d_Mo_next_56 rfl (lv_at hl 1 rfl) ?_
          refine gm_get (C := R_Mo) (T := F_Mo) (n := 44) hx hb htl i_Mo hown hK hP eh rfl 19 (by decide) (htl _ k_762) (fun _ h => h) rfl d_Mo_next_57 ?_
          refine lv_iload_n hx hb d_Mo_next_60 rfl (lv_at hl 2 rfl) ?_
          refine gz_iald hx hb hK hP 0 m14 rfl (by omega) (by omega) d_Mo_next_61 ?_
          rw [show (mq 0) k = fl k 4 from (hRF k (by omega)).1]
          have b_1 := (hF k).2
          refine lv_istore (lv' := [(8, .int (nI (fl k 4))), (7, .int (nI op)), (0, .ref h), (1, .int (nI k)), (2, .int (nI sd)), (3, .int (nI f0)), (4, .int (nI sy)), (5, .int (nI ak)), (6, .int (nI fi))]) hx hb d_Mo_next_62 hl (by decide) rfl (fun ls hl => ?_)
          refine lv_iload hx hb d_Mo_next_64 (lv_at hl 0 rfl) ?_
          refine lv_iconst (v := nI 2) hx hb d_Mo_next_66 (by decide) ?_
          refine ln_gt (tgt := 92) hx hb d_Mo_next_67 (by decide) (by omega) (by omega) (fun c_2 => ?_) (fun c_2 => ?_)
          · skip
            refine lv_iload hx hb d_Mo_next_92 (lv_at hl 0 rfl) ?_
            refine lv_iconst (v := nI 1) hx hb d_Mo_next_94 (by decide) ?_
            refine ln_ne (tgt := 114) hx hb d_Mo_next_95 (by decide) (by omega) (by omega) (fun c_3 => ?_) (fun c_3 => ?_)
            · skip
              refine lv_iload hx hb d_Mo_next_114 (lv_at hl 0 rfl) ?_
              refine lv_iconst (v := nI 2) hx hb d_Mo_next_116 (by decide) ?_
              refine ln_ne (tgt := 132) hx hb d_Mo_next_117 (by decide) (by omega) (by omega) (fun c_4 => ?_) (fun c_4 => ?_)
              · skip
                refine lv_iload hx hb d_Mo_next_132 (lv_at hl 6 rfl) ?_
                refine lz_eq (tgt := 139) hx hb d_Mo_next_134 (by decide) (by omega) (fun c_5 => ?_) (fun c_5 => ?_)
                · skip
                  refine lv_iload hx hb d_Mo_next_139 (lv_at hl 0 rfl) ?_
                  refine lv_iconst (v := nI 3) hx hb d_Mo_next_141 (by decide) ?_
                  refine ln_gt (tgt := 156) hx hb d_Mo_next_142 (by decide) (by omega) (by omega) (fun c_6 => ?_) (fun c_6 => ?_)
                  · skip
                    refine lv_iload hx hb d_Mo_next_156 (lv_at hl 0 rfl) ?_
                    refine lv_iconst (v := nI 4) hx hb d_Mo_next_158 (by decide) ?_
                    refine ln_ne (tgt := 181) hx hb d_Mo_next_159 (by decide) (by omega) (by omega) (fun c_7 => ?_) (fun c_7 => ?_)
                    · skip
                      refine lv_iload hx hb d_Mo_next_181 (lv_at hl 0 rfl) ?_
                      rw [← hQ]
                      exact gc_iret hx hb hr hlk hP hS d_Mo_next_183 ⟨rfl, rfl, congrArg nI (by first | omega | unfold nxS; rw [← hj_11.1, ← hj_24.1, ← hj_37.1, ← hj_54.1]; unfold nxM; (repeat (first | rw [if_pos (by omega)] | rw [if_neg (by omega)])))⟩
                    · skip
                      refine lv_iload hx hb d_Mo_next_162 (lv_at hl 8 rfl) ?_
                      refine lz_eq (tgt := 181) hx hb d_Mo_next_164 (by decide) (by omega) (fun c_8 => ?_) (fun c_8 => ?_)
                      · skip
                        refine lv_iload hx hb d_Mo_next_181 (lv_at hl 0 rfl) ?_
                        rw [← hQ]
                        exact gc_iret hx hb hr hlk hP hS d_Mo_next_183 ⟨rfl, rfl, congrArg nI (by first | omega | unfold nxS; rw [← hj_11.1, ← hj_24.1, ← hj_37.1, ← hj_54.1]; unfold nxM; (repeat (first | rw [if_pos (by omega)] | rw [if_neg (by omega)])))⟩
                      · skip
                        refine lv_iload_n hx hb d_Mo_next_167 rfl (lv_at hl 4 rfl) ?_
                        refine lv_aload_n hx hb d_Mo_next_168 rfl (lv_at hl 2 rfl) ?_
                        refine gm_get (C := R_Mo) (T := F_Mo) (n := 44) hx hb htl i_Mo hown hK hP eh rfl 28 (by decide) (htl _ k_771) (fun _ h => h) rfl d_Mo_next_169 ?_
                        refine lv_iload_n hx hb d_Mo_next_172 rfl (lv_at hl 3 rfl) ?_
                        refine gz_iald hx hb hK hP 0 m23 rfl (by omega) (by omega) d_Mo_next_173 ?_
                        rw [show (mq 9) k = 1 - fl k 7 from (hRF k (by omega)).2.2.2.2.2.2.2.2.2 (by omega)]
                        have b_9 := (hF k).2
                        refine ln_eq (tgt := 181) hx hb d_Mo_next_174 (by decide) (by omega) (by omega) (fun c_10 => ?_) (fun c_10 => ?_)
                        · skip
                          refine lv_iload hx hb d_Mo_next_181 (lv_at hl 0 rfl) ?_
                          rw [← hQ]
                          exact gc_iret hx hb hr hlk hP hS d_Mo_next_183 ⟨rfl, rfl, congrArg nI (by first | omega | unfold nxS; rw [← hj_11.1, ← hj_24.1, ← hj_37.1, ← hj_54.1]; unfold nxM; (repeat (first | rw [if_pos (by omega)] | rw [if_neg (by omega)])))⟩
                        · skip
                          refine lv_iconst (v := nI 5) hx hb d_Mo_next_177 (by decide) ?_
                          refine lv_goto (tgt := 183) hx hb d_Mo_next_178 (by decide) ?_
                          rw [← hQ]
                          exact gc_iret hx hb hr hlk hP hS d_Mo_next_183 ⟨rfl, rfl, congrArg nI (by first | omega | unfold nxS; rw [← hj_11.1, ← hj_24.1, ← hj_37.1, ← hj_54.1]; unfold nxM; (repeat (first | rw [if_pos (by omega)] | rw [if_neg (by omega)])))⟩
                  · skip
                    refine lv_iload hx hb d_Mo_next_145 (lv_at hl 8 rfl) ?_
                    refine lz_eq (tgt := 154) hx hb d_Mo_next_147 (by decide) (by omega) (fun c_11 => ?_) (fun c_11 => ?_)
                    · skip
                      refine lv_iconst (v := nI 3) hx hb d_Mo_next_154 (by decide) ?_
                      rw [← hQ]
                      exact gc_iret hx hb hr hlk hP hS d_Mo_next_155 ⟨rfl, rfl, congrArg nI (by first | omega | unfold nxS; rw [← hj_11.1, ← hj_24.1, ← hj_37.1, ← hj_54.1]; unfold nxM; (repeat (first | rw [if_pos (by omega)] | rw [if_neg (by omega)])))⟩
                    · skip
                      refine lv_iconst (v := nI 4) hx hb d_Mo_next_150 (by decide) ?_
                      refine lv_goto (tgt := 155) hx hb d_Mo_next_151 (by decide) ?_
                      rw [← hQ]
                      exact gc_iret hx hb hr hlk hP hS d_Mo_next_155 ⟨rfl, rfl, congrArg nI (by first | omega | unfold nxS; rw [← hj_11.1, ← hj_24.1, ← hj_37.1, ← hj_54.1]; unfold nxM; (repeat (first | rw [if_pos (by omega)] | rw [if_neg (by omega)])))⟩
                · skip
                  refine lv_iconst (v := nI 0) hx hb d_Mo_next_137 (by decide) ?_
                  rw [← hQ]
                  exact gc_iret hx hb hr hlk hP hS d_Mo_next_138 ⟨rfl, rfl, congrArg nI (by first | omega | unfold nxS; rw [← hj_11.1, ← hj_24.1, ← hj_37.1, ← hj_54.1]; unfold nxM; (repeat (first | rw [if_pos (by omega)] | rw [if_neg (by omega)])))⟩
              · skip
                refine lv_iload hx hb d_Mo_next_120 (lv_at hl 1 rfl) ?_
                refine lz_eq (tgt := 130) hx hb d_Mo_next_122 (by decide) (by omega) (fun c_12 => ?_) (fun c_12 => ?_)
                · skip
                  refine lv_iconst (v := nI 0) hx hb d_Mo_next_130 (by decide) ?_
                  rw [← hQ]
                  exact gc_iret hx hb hr hlk hP hS d_Mo_next_131 ⟨rfl, rfl, congrArg nI (by first | omega | unfold nxS; rw [← hj_11.1, ← hj_24.1, ← hj_37.1, ← hj_54.1]; unfold nxM; (repeat (first | rw [if_pos (by omega)] | rw [if_neg (by omega)])))⟩
                · skip
                  refine lv_iload hx hb d_Mo_next_125 (lv_at hl 7 rfl) ?_
                  refine lz_ne (tgt := 132) hx hb d_Mo_next_127 (by decide) (by omega) (fun c_13 => ?_) (fun c_13 => ?_)
                  · skip
                    refine lv_iload hx hb d_Mo_next_132 (lv_at hl 6 rfl) ?_
                    refine lz_eq (tgt := 139) hx hb d_Mo_next_134 (by decide) (by omega) (fun c_14 => ?_) (fun c_14 => ?_)
                    · skip
                      refine lv_iload hx hb d_Mo_next_139 (lv_at hl 0 rfl) ?_
                      refine lv_iconst (v := nI 3) hx hb d_Mo_next_141 (by decide) ?_
                      refine ln_gt (tgt := 156) hx hb d_Mo_next_142 (by decide) (by omega) (by omega) (fun c_15 => ?_) (fun c_15 => ?_)
                      · skip
                        refine lv_iload hx hb d_Mo_next_156 (lv_at hl 0 rfl) ?_
                        refine lv_iconst (v := nI 4) hx hb d_Mo_next_158 (by decide) ?_
                        refine ln_ne (tgt := 181) hx hb d_Mo_next_159 (by decide) (by omega) (by omega) (fun c_16 => ?_) (fun c_16 => ?_)
                        · skip
                          refine lv_iload hx hb d_Mo_next_181 (lv_at hl 0 rfl) ?_
                          rw [← hQ]
                          exact gc_iret hx hb hr hlk hP hS d_Mo_next_183 ⟨rfl, rfl, congrArg nI (by first | omega | unfold nxS; rw [← hj_11.1, ← hj_24.1, ← hj_37.1, ← hj_54.1]; unfold nxM; (repeat (first | rw [if_pos (by omega)] | rw [if_neg (by omega)])))⟩
                        · skip
                          refine lv_iload hx hb d_Mo_next_162 (lv_at hl 8 rfl) ?_
                          refine lz_eq (tgt := 181) hx hb d_Mo_next_164 (by decide) (by omega) (fun c_17 => ?_) (fun c_17 => ?_)
                          · skip
                            refine lv_iload hx hb d_Mo_next_181 (lv_at hl 0 rfl) ?_
                            rw [← hQ]
                            exact gc_iret hx hb hr hlk hP hS d_Mo_next_183 ⟨rfl, rfl, congrArg nI (by first | omega | unfold nxS; rw [← hj_11.1, ← hj_24.1, ← hj_37.1, ← hj_54.1]; unfold nxM; (repeat (first | rw [if_pos (by omega)] | rw [if_neg (by omega)])))⟩
                          · skip
                            refine lv_iload_n hx hb d_Mo_next_167 rfl (lv_at hl 4 rfl) ?_
                            refine lv_aload_n hx hb d_Mo_next_168 rfl (lv_at hl 2 rfl) ?_
                            refine gm_get (C := R_Mo) (T := F_Mo) (n := 44) hx hb htl i_Mo hown hK hP eh rfl 28 (by decide) (htl _ k_771) (fun _ h => h) rfl d_Mo_next_169 ?_
                            refine lv_iload_n hx hb d_Mo_next_172 rfl (lv_at hl 3 rfl) ?_
                            refine gz_iald hx hb hK hP 0 m23 rfl (by omega) (by omega) d_Mo_next_173 ?_
                            rw [show (mq 9) k = 1 - fl k 7 from (hRF k (by omega)).2.2.2.2.2.2.2.2.2 (by omega)]
                            have b_18 := (hF k).2
                            refine ln_eq (tgt := 181) hx hb d_Mo_next_174 (by decide) (by omega) (by omega) (fun c_19 => ?_) (fun c_19 => ?_)
                            · skip
                              refine lv_iload hx hb d_Mo_next_181 (lv_at hl 0 rfl) ?_
                              rw [← hQ]
                              exact gc_iret hx hb hr hlk hP hS d_Mo_next_183 ⟨rfl, rfl, congrArg nI (by first | omega | unfold nxS; rw [← hj_11.1, ← hj_24.1, ← hj_37.1, ← hj_54.1]; unfold nxM; (repeat (first | rw [if_pos (by omega)] | rw [if_neg (by omega)])))⟩
                            · skip
                              refine lv_iconst (v := nI 5) hx hb d_Mo_next_177 (by decide) ?_
                              refine lv_goto (tgt := 183) hx hb d_Mo_next_178 (by decide) ?_
                              rw [← hQ]
                              exact gc_iret hx hb hr hlk hP hS d_Mo_next_183 ⟨rfl, rfl, congrArg nI (by first | omega | unfold nxS; rw [← hj_11.1, ← hj_24.1, ← hj_37.1, ← hj_54.1]; unfold nxM; (repeat (first | rw [if_pos (by omega)] | rw [if_neg (by omega)])))⟩
                      · skip
                        refine lv_iload hx hb d_Mo_next_145 (lv_at hl 8 rfl) ?_
                        refine lz_eq (tgt := 154) hx hb d_Mo_next_147 (by decide) (by omega) (fun c_20 => ?_) (fun c_20 => ?_)
                        · skip
                          refine lv_iconst (v := nI 3) hx hb d_Mo_next_154 (by decide) ?_
                          rw [← hQ]
                          exact gc_iret hx hb hr hlk hP hS d_Mo_next_155 ⟨rfl, rfl, congrArg nI (by first | omega | unfold nxS; rw [← hj_11.1, ← hj_24.1, ← hj_37.1, ← hj_54.1]; unfold nxM; (repeat (first | rw [if_pos (by omega)] | rw [if_neg (by omega)])))⟩
                        · skip
                          refine lv_iconst (v := nI 4) hx hb d_Mo_next_150 (by decide) ?_
                          refine lv_goto (tgt := 155) hx hb d_Mo_next_151 (by decide) ?_
                          rw [← hQ]
                          exact gc_iret hx hb hr hlk hP hS d_Mo_next_155 ⟨rfl, rfl, congrArg nI (by first | omega | unfold nxS; rw [← hj_11.1, ← hj_24.1, ← hj_37.1, ← hj_54.1]; unfold nxM; (repeat (first | rw [if_pos (by omega)] | rw [if_neg (by omega)])))⟩
                    · skip
                      refine lv_iconst (v := nI 0) hx hb d_Mo_next_137 (by decide) ?_
                      rw [← hQ]
                      exact gc_iret hx hb hr hlk hP hS d_Mo_next_138 ⟨rfl, rfl, congrArg nI (by first | omega | unfold nxS; rw [← hj_11.1, ← hj_24.1, ← hj_37.1, ← hj_54.1]; unfold nxM; (repeat (first | rw [if_pos (by omega)] | rw [if_neg (by omega)])))⟩
                  · skip
                    refine lv_iconst (v := nI 0) hx hb d_Mo_next_130 (by decide) ?_
                    rw [← hQ]
                    exact gc_iret hx hb hr hlk hP hS d_Mo_next_131 ⟨rfl, rfl, congrArg nI (by first | omega | unfold nxS; rw [← hj_11.1, ← hj_24.1, ← hj_37.1, ← hj_54.1]; unfold nxM; (repeat (first | rw [if_pos (by omega)] | rw [if_neg (by omega)])))⟩
            · skip
              refine lv_iload_n hx hb d_Mo_next_98 rfl (lv_at hl 5 rfl) ?_
              refine lv_iconst (v := nI 1) hx hb d_Mo_next_99 (by decide) ?_
              refine ln_ne (tgt := 112) hx hb d_Mo_next_100 (by decide) (by omega) (by omega) (fun c_21 => ?_) (fun c_21 => ?_)
              · skip
                refine lv_iconst (v := nI 0) hx hb d_Mo_next_112 (by decide) ?_
                rw [← hQ]
                exact gc_iret hx hb hr hlk hP hS d_Mo_next_113 ⟨rfl, rfl, congrArg nI (by first | omega | unfold nxS; rw [← hj_11.1, ← hj_24.1, ← hj_37.1, ← hj_54.1]; unfold nxM; (repeat (first | rw [if_pos (by omega)] | rw [if_neg (by omega)])))⟩
              · skip
                refine lv_iload hx hb d_Mo_next_103 (lv_at hl 1 rfl) ?_
                refine lz_eq (tgt := 112) hx hb d_Mo_next_105 (by decide) (by omega) (fun c_22 => ?_) (fun c_22 => ?_)
                · skip
                  refine lv_iconst (v := nI 0) hx hb d_Mo_next_112 (by decide) ?_
                  rw [← hQ]
                  exact gc_iret hx hb hr hlk hP hS d_Mo_next_113 ⟨rfl, rfl, congrArg nI (by first | omega | unfold nxS; rw [← hj_11.1, ← hj_24.1, ← hj_37.1, ← hj_54.1]; unfold nxM; (repeat (first | rw [if_pos (by omega)] | rw [if_neg (by omega)])))⟩
                · skip
                  refine lv_iconst (v := nI 1) hx hb d_Mo_next_108 (by decide) ?_
                  refine lv_goto (tgt := 113) hx hb d_Mo_next_109 (by decide) ?_
                  rw [← hQ]
                  exact gc_iret hx hb hr hlk hP hS d_Mo_next_113 ⟨rfl, rfl, congrArg nI (by first | omega | unfold nxS; rw [← hj_11.1, ← hj_24.1, ← hj_37.1, ← hj_54.1]; unfold nxM; (repeat (first | rw [if_pos (by omega)] | rw [if_neg (by omega)])))⟩
          · skip
            refine lv_iload hx hb d_Mo_next_70 (lv_at hl 6 rfl) ?_
            refine lz_eq (tgt := 92) hx hb d_Mo_next_72 (by decide) (by omega) (fun c_23 => ?_) (fun c_23 => ?_)
            · skip
              refine lv_iload hx hb d_Mo_next_92 (lv_at hl 0 rfl) ?_
              refine lv_iconst (v := nI 1) hx hb d_Mo_next_94 (by decide) ?_
              refine ln_ne (tgt := 114) hx hb d_Mo_next_95 (by decide) (by omega) (by omega) (fun c_24 => ?_) (fun c_24 => ?_)
              · skip
                refine lv_iload hx hb d_Mo_next_114 (lv_at hl 0 rfl) ?_
                refine lv_iconst (v := nI 2) hx hb d_Mo_next_116 (by decide) ?_
                refine ln_ne (tgt := 132) hx hb d_Mo_next_117 (by decide) (by omega) (by omega) (fun c_25 => ?_) (fun c_25 => ?_)
                · skip
                  refine lv_iload hx hb d_Mo_next_132 (lv_at hl 6 rfl) ?_
                  refine lz_eq (tgt := 139) hx hb d_Mo_next_134 (by decide) (by omega) (fun c_26 => ?_) (fun c_26 => ?_)
                  · skip
                    refine lv_iload hx hb d_Mo_next_139 (lv_at hl 0 rfl) ?_
                    refine lv_iconst (v := nI 3) hx hb d_Mo_next_141 (by decide) ?_
                    refine ln_gt (tgt := 156) hx hb d_Mo_next_142 (by decide) (by omega) (by omega) (fun c_27 => ?_) (fun c_27 => ?_)
                    · skip
                      refine lv_iload hx hb d_Mo_next_156 (lv_at hl 0 rfl) ?_
                      refine lv_iconst (v := nI 4) hx hb d_Mo_next_158 (by decide) ?_
                      refine ln_ne (tgt := 181) hx hb d_Mo_next_159 (by decide) (by omega) (by omega) (fun c_28 => ?_) (fun c_28 => ?_)
                      · skip
                        refine lv_iload hx hb d_Mo_next_181 (lv_at hl 0 rfl) ?_
                        rw [← hQ]
                        exact gc_iret hx hb hr hlk hP hS d_Mo_next_183 ⟨rfl, rfl, congrArg nI (by first | omega | unfold nxS; rw [← hj_11.1, ← hj_24.1, ← hj_37.1, ← hj_54.1]; unfold nxM; (repeat (first | rw [if_pos (by omega)] | rw [if_neg (by omega)])))⟩
                      · skip
                        refine lv_iload hx hb d_Mo_next_162 (lv_at hl 8 rfl) ?_
                        refine lz_eq (tgt := 181) hx hb d_Mo_next_164 (by decide) (by omega) (fun c_29 => ?_) (fun c_29 => ?_)
                        · skip
                          refine lv_iload hx hb d_Mo_next_181 (lv_at hl 0 rfl) ?_
                          rw [← hQ]
                          exact gc_iret hx hb hr hlk hP hS d_Mo_next_183 ⟨rfl, rfl, congrArg nI (by first | omega | unfold nxS; rw [← hj_11.1, ← hj_24.1, ← hj_37.1, ← hj_54.1]; unfold nxM; (repeat (first | rw [if_pos (by omega)] | rw [if_neg (by omega)])))⟩
                        · skip
                          refine lv_iload_n hx hb d_Mo_next_167 rfl (lv_at hl 4 rfl) ?_
                          refine lv_aload_n hx hb d_Mo_next_168 rfl (lv_at hl 2 rfl) ?_
                          refine gm_get (C := R_Mo) (T := F_Mo) (n := 44) hx hb htl i_Mo hown hK hP eh rfl 28 (by decide) (htl _ k_771) (fun _ h => h) rfl d_Mo_next_169 ?_
                          refine lv_iload_n hx hb d_Mo_next_172 rfl (lv_at hl 3 rfl) ?_
                          refine gz_iald hx hb hK hP 0 m23 rfl (by omega) (by omega) d_Mo_next_173 ?_
                          rw [show (mq 9) k = 1 - fl k 7 from (hRF k (by omega)).2.2.2.2.2.2.2.2.2 (by omega)]
                          have b_30 := (hF k).2
                          refine ln_eq (tgt := 181) hx hb d_Mo_next_174 (by decide) (by omega) (by omega) (fun c_31 => ?_) (fun c_31 => ?_)
                          · skip
                            refine lv_iload hx hb d_Mo_next_181 (lv_at hl 0 rfl) ?_
                            rw [← hQ]
                            exact gc_iret hx hb hr hlk hP hS d_Mo_next_183 ⟨rfl, rfl, congrArg nI (by first | omega | unfold nxS; rw [← hj_11.1, ← hj_24.1, ← hj_37.1, ← hj_54.1]; unfold nxM; (repeat (first | rw [if_pos (by omega)] | rw [if_neg (by omega)])))⟩
                          · skip
                            refine lv_iconst (v := nI 5) hx hb d_Mo_next_177 (by decide) ?_
                            refine lv_goto (tgt := 183) hx hb d_Mo_next_178 (by decide) ?_
                            rw [← hQ]
                            exact gc_iret hx hb hr hlk hP hS d_Mo_next_183 ⟨rfl, rfl, congrArg nI (by first | omega | unfold nxS; rw [← hj_11.1, ← hj_24.1, ← hj_37.1, ← hj_54.1]; unfold nxM; (repeat (first | rw [if_pos (by omega)] | rw [if_neg (by omega)])))⟩
                    · skip
                      refine lv_iload hx hb d_Mo_next_145 (lv_at hl 8 rfl) ?_
                      refine lz_eq (tgt := 154) hx hb d_Mo_next_147 (by decide) (by omega) (fun c_32 => ?_) (fun c_32 => ?_)
                      · skip
                        refine lv_iconst (v := nI 3) hx hb d_Mo_next_154 (by decide) ?_
                        rw [← hQ]
                        exact gc_iret hx hb hr hlk hP hS d_Mo_next_155 ⟨rfl, rfl, congrArg nI (by first | omega | unfold nxS; rw [← hj_11.1, ← hj_24.1, ← hj_37.1, ← hj_54.1]; unfold nxM; (repeat (first | rw [if_pos (by omega)] | rw [if_neg (by omega)])))⟩
                      · skip
                        refine lv_iconst (v := nI 4) hx hb d_Mo_next_150 (by decide) ?_
                        refine lv_goto (tgt := 155) hx hb d_Mo_next_151 (by decide) ?_
                        rw [← hQ]
                        exact gc_iret hx hb hr hlk hP hS d_Mo_next_155 ⟨rfl, rfl, congrArg nI (by first | omega | unfold nxS; rw [← hj_11.1, ← hj_24.1, ← hj_37.1, ← hj_54.1]; unfold nxM; (repeat (first | rw [if_pos (by omega)] | rw [if_neg (by omega)])))⟩
                  · omega
                · skip
                  refine lv_iload hx hb d_Mo_next_120 (lv_at hl 1 rfl) ?_
                  refine lz_eq (tgt := 130) hx hb d_Mo_next_122 (by decide) (by omega) (fun c_33 => ?_) (fun c_33 => ?_)
                  · skip
                    refine lv_iconst (v := nI 0) hx hb d_Mo_next_130 (by decide) ?_
                    rw [← hQ]
                    exact gc_iret hx hb hr hlk hP hS d_Mo_next_131 ⟨rfl, rfl, congrArg nI (by first | omega | unfold nxS; rw [← hj_11.1, ← hj_24.1, ← hj_37.1, ← hj_54.1]; unfold nxM; (repeat (first | rw [if_pos (by omega)] | rw [if_neg (by omega)])))⟩
                  · skip
                    refine lv_iload hx hb d_Mo_next_125 (lv_at hl 7 rfl) ?_
                    refine lz_ne (tgt := 132) hx hb d_Mo_next_127 (by decide) (by omega) (fun c_34 => ?_) (fun c_34 => ?_)
                    · skip
                      refine lv_iload hx hb d_Mo_next_132 (lv_at hl 6 rfl) ?_
                      refine lz_eq (tgt := 139) hx hb d_Mo_next_134 (by decide) (by omega) (fun c_35 => ?_) (fun c_35 => ?_)
                      · skip
                        refine lv_iload hx hb d_Mo_next_139 (lv_at hl 0 rfl) ?_
                        refine lv_iconst (v := nI 3) hx hb d_Mo_next_141 (by decide) ?_
                        refine ln_gt (tgt := 156) hx hb d_Mo_next_142 (by decide) (by omega) (by omega) (fun c_36 => ?_) (fun c_36 => ?_)
                        · skip
                          refine lv_iload hx hb d_Mo_next_156 (lv_at hl 0 rfl) ?_
                          refine lv_iconst (v := nI 4) hx hb d_Mo_next_158 (by decide) ?_
                          refine ln_ne (tgt := 181) hx hb d_Mo_next_159 (by decide) (by omega) (by omega) (fun c_37 => ?_) (fun c_37 => ?_)
                          · skip
                            refine lv_iload hx hb d_Mo_next_181 (lv_at hl 0 rfl) ?_
                            rw [← hQ]
                            exact gc_iret hx hb hr hlk hP hS d_Mo_next_183 ⟨rfl, rfl, congrArg nI (by first | omega | unfold nxS; rw [← hj_11.1, ← hj_24.1, ← hj_37.1, ← hj_54.1]; unfold nxM; (repeat (first | rw [if_pos (by omega)] | rw [if_neg (by omega)])))⟩
                          · skip
                            refine lv_iload hx hb d_Mo_next_162 (lv_at hl 8 rfl) ?_
                            refine lz_eq (tgt := 181) hx hb d_Mo_next_164 (by decide) (by omega) (fun c_38 => ?_) (fun c_38 => ?_)
                            · skip
                              refine lv_iload hx hb d_Mo_next_181 (lv_at hl 0 rfl) ?_
                              rw [← hQ]
                              exact gc_iret hx hb hr hlk hP hS d_Mo_next_183 ⟨rfl, rfl, congrArg nI (by first | omega | unfold nxS; rw [← hj_11.1, ← hj_24.1, ← hj_37.1, ← hj_54.1]; unfold nxM; (repeat (first | rw [if_pos (by omega)] | rw [if_neg (by omega)])))⟩
                            · skip
                              refine lv_iload_n hx hb d_Mo_next_167 rfl (lv_at hl 4 rfl) ?_
                              refine lv_aload_n hx hb d_Mo_next_168 rfl (lv_at hl 2 rfl) ?_
                              refine gm_get (C := R_Mo) (T := F_Mo) (n := 44) hx hb htl i_Mo hown hK hP eh rfl 28 (by decide) (htl _ k_771) (fun _ h => h) rfl d_Mo_next_169 ?_
                              refine lv_iload_n hx hb d_Mo_next_172 rfl (lv_at hl 3 rfl) ?_
                              refine gz_iald hx hb hK hP 0 m23 rfl (by omega) (by omega) d_Mo_next_173 ?_
                              rw [show (mq 9) k = 1 - fl k 7 from (hRF k (by omega)).2.2.2.2.2.2.2.2.2 (by omega)]
                              have b_39 := (hF k).2
                              refine ln_eq (tgt := 181) hx hb d_Mo_next_174 (by decide) (by omega) (by omega) (fun c_40 => ?_) (fun c_40 => ?_)
                              · skip
                                refine lv_iload hx hb d_Mo_next_181 (lv_at hl 0 rfl) ?_
                                rw [← hQ]
                                exact gc_iret hx hb hr hlk hP hS d_Mo_next_183 ⟨rfl, rfl, congrArg nI (by first | omega | unfold nxS; rw [← hj_11.1, ← hj_24.1, ← hj_37.1, ← hj_54.1]; unfold nxM; (repeat (first | rw [if_pos (by omega)] | rw [if_neg (by omega)])))⟩
                              · skip
                                refine lv_iconst (v := nI 5) hx hb d_Mo_next_177 (by decide) ?_
                                refine lv_goto (tgt := 183) hx hb d_Mo_next_178 (by decide) ?_
                                rw [← hQ]
                                exact gc_iret hx hb hr hlk hP hS d_Mo_next_183 ⟨rfl, rfl, congrArg nI (by first | omega | unfold nxS; rw [← hj_11.1, ← hj_24.1, ← hj_37.1, ← hj_54.1]; unfold nxM; (repeat (first | rw [if_pos (by omega)] | rw [if_neg (by omega)])))⟩
                        · skip
                          refine lv_iload hx hb d_Mo_next_145 (lv_at hl 8 rfl) ?_
                          refine lz_eq (tgt := 154) hx hb d_Mo_next_147 (by decide) (by omega) (fun c_41 => ?_) (fun c_41 => ?_)
                          · skip
                            refine lv_iconst (v := nI 3) hx hb d_Mo_next_154 (by decide) ?_
                            rw [← hQ]
                            exact gc_iret hx hb hr hlk hP hS d_Mo_next_155 ⟨rfl, rfl, congrArg nI (by first | omega | unfold nxS; rw [← hj_11.1, ← hj_24.1, ← hj_37.1, ← hj_54.1]; unfold nxM; (repeat (first | rw [if_pos (by omega)] | rw [if_neg (by omega)])))⟩
                          · skip
                            refine lv_iconst (v := nI 4) hx hb d_Mo_next_150 (by decide) ?_
                            refine lv_goto (tgt := 155) hx hb d_Mo_next_151 (by decide) ?_
                            rw [← hQ]
                            exact gc_iret hx hb hr hlk hP hS d_Mo_next_155 ⟨rfl, rfl, congrArg nI (by first | omega | unfold nxS; rw [← hj_11.1, ← hj_24.1, ← hj_37.1, ← hj_54.1]; unfold nxM; (repeat (first | rw [if_pos (by omega)] | rw [if_neg (by omega)])))⟩
                      · omega
                    · skip
                      refine lv_iconst (v := nI 0) hx hb d_Mo_next_130 (by decide) ?_
                      rw [← hQ]
                      exact gc_iret hx hb hr hlk hP hS d_Mo_next_131 ⟨rfl, rfl, congrArg nI (by first | omega | unfold nxS; rw [← hj_11.1, ← hj_24.1, ← hj_37.1, ← hj_54.1]; unfold nxM; (repeat (first | rw [if_pos (by omega)] | rw [if_neg (by omega)])))⟩
              · skip
                refine lv_iload_n hx hb d_Mo_next_98 rfl (lv_at hl 5 rfl) ?_
                refine lv_iconst (v := nI 1) hx hb d_Mo_next_99 (by decide) ?_
                refine ln_ne (tgt := 112) hx hb d_Mo_next_100 (by decide) (by omega) (by omega) (fun c_42 => ?_) (fun c_42 => ?_)
                · skip
                  refine lv_iconst (v := nI 0) hx hb d_Mo_next_112 (by decide) ?_
                  rw [← hQ]
                  exact gc_iret hx hb hr hlk hP hS d_Mo_next_113 ⟨rfl, rfl, congrArg nI (by first | omega | unfold nxS; rw [← hj_11.1, ← hj_24.1, ← hj_37.1, ← hj_54.1]; unfold nxM; (repeat (first | rw [if_pos (by omega)] | rw [if_neg (by omega)])))⟩
                · skip
                  refine lv_iload hx hb d_Mo_next_103 (lv_at hl 1 rfl) ?_
                  refine lz_eq (tgt := 112) hx hb d_Mo_next_105 (by decide) (by omega) (fun c_43 => ?_) (fun c_43 => ?_)
                  · skip
                    refine lv_iconst (v := nI 0) hx hb d_Mo_next_112 (by decide) ?_
                    rw [← hQ]
                    exact gc_iret hx hb hr hlk hP hS d_Mo_next_113 ⟨rfl, rfl, congrArg nI (by first | omega | unfold nxS; rw [← hj_11.1, ← hj_24.1, ← hj_37.1, ← hj_54.1]; unfold nxM; (repeat (first | rw [if_pos (by omega)] | rw [if_neg (by omega)])))⟩
                  · skip
                    refine lv_iconst (v := nI 1) hx hb d_Mo_next_108 (by decide) ?_
                    refine lv_goto (tgt := 113) hx hb d_Mo_next_109 (by decide) ?_
                    rw [← hQ]
                    exact gc_iret hx hb hr hlk hP hS d_Mo_next_113 ⟨rfl, rfl, congrArg nI (by first | omega | unfold nxS; rw [← hj_11.1, ← hj_24.1, ← hj_37.1, ← hj_54.1]; unfold nxM; (repeat (first | rw [if_pos (by omega)] | rw [if_neg (by omega)])))⟩
            · skip
              refine lv_iload hx hb d_Mo_next_75 (lv_at hl 7 rfl) ?_
              refine lz_eq (tgt := 92) hx hb d_Mo_next_77 (by decide) (by omega) (fun c_44 => ?_) (fun c_44 => ?_)
              · skip
                refine lv_iload hx hb d_Mo_next_92 (lv_at hl 0 rfl) ?_
                refine lv_iconst (v := nI 1) hx hb d_Mo_next_94 (by decide) ?_
                refine ln_ne (tgt := 114) hx hb d_Mo_next_95 (by decide) (by omega) (by omega) (fun c_45 => ?_) (fun c_45 => ?_)
                · skip
                  refine lv_iload hx hb d_Mo_next_114 (lv_at hl 0 rfl) ?_
                  refine lv_iconst (v := nI 2) hx hb d_Mo_next_116 (by decide) ?_
                  refine ln_ne (tgt := 132) hx hb d_Mo_next_117 (by decide) (by omega) (by omega) (fun c_46 => ?_) (fun c_46 => ?_)
                  · skip
                    refine lv_iload hx hb d_Mo_next_132 (lv_at hl 6 rfl) ?_
                    refine lz_eq (tgt := 139) hx hb d_Mo_next_134 (by decide) (by omega) (fun c_47 => ?_) (fun c_47 => ?_)
                    · omega
                    · skip
                      refine lv_iconst (v := nI 0) hx hb d_Mo_next_137 (by decide) ?_
                      rw [← hQ]
                      exact gc_iret hx hb hr hlk hP hS d_Mo_next_138 ⟨rfl, rfl, congrArg nI (by first | omega | unfold nxS; rw [← hj_11.1, ← hj_24.1, ← hj_37.1, ← hj_54.1]; unfold nxM; (repeat (first | rw [if_pos (by omega)] | rw [if_neg (by omega)])))⟩
                  · skip
                    refine lv_iload hx hb d_Mo_next_120 (lv_at hl 1 rfl) ?_
                    refine lz_eq (tgt := 130) hx hb d_Mo_next_122 (by decide) (by omega) (fun c_48 => ?_) (fun c_48 => ?_)
                    · skip
                      refine lv_iconst (v := nI 0) hx hb d_Mo_next_130 (by decide) ?_
                      rw [← hQ]
                      exact gc_iret hx hb hr hlk hP hS d_Mo_next_131 ⟨rfl, rfl, congrArg nI (by first | omega | unfold nxS; rw [← hj_11.1, ← hj_24.1, ← hj_37.1, ← hj_54.1]; unfold nxM; (repeat (first | rw [if_pos (by omega)] | rw [if_neg (by omega)])))⟩
                    · skip
                      refine lv_iload hx hb d_Mo_next_125 (lv_at hl 7 rfl) ?_
                      refine lz_ne (tgt := 132) hx hb d_Mo_next_127 (by decide) (by omega) (fun c_49 => ?_) (fun c_49 => ?_)
                      · omega
                      · skip
                        refine lv_iconst (v := nI 0) hx hb d_Mo_next_130 (by decide) ?_
                        rw [← hQ]
                        exact gc_iret hx hb hr hlk hP hS d_Mo_next_131 ⟨rfl, rfl, congrArg nI (by first | omega | unfold nxS; rw [← hj_11.1, ← hj_24.1, ← hj_37.1, ← hj_54.1]; unfold nxM; (repeat (first | rw [if_pos (by omega)] | rw [if_neg (by omega)])))⟩
                · skip
                  refine lv_iload_n hx hb d_Mo_next_98 rfl (lv_at hl 5 rfl) ?_
                  refine lv_iconst (v := nI 1) hx hb d_Mo_next_99 (by decide) ?_
                  refine ln_ne (tgt := 112) hx hb d_Mo_next_100 (by decide) (by omega) (by omega) (fun c_50 => ?_) (fun c_50 => ?_)
                  · skip
                    refine lv_iconst (v := nI 0) hx hb d_Mo_next_112 (by decide) ?_
                    rw [← hQ]
                    exact gc_iret hx hb hr hlk hP hS d_Mo_next_113 ⟨rfl, rfl, congrArg nI (by first | omega | unfold nxS; rw [← hj_11.1, ← hj_24.1, ← hj_37.1, ← hj_54.1]; unfold nxM; (repeat (first | rw [if_pos (by omega)] | rw [if_neg (by omega)])))⟩
                  · skip
                    refine lv_iload hx hb d_Mo_next_103 (lv_at hl 1 rfl) ?_
                    refine lz_eq (tgt := 112) hx hb d_Mo_next_105 (by decide) (by omega) (fun c_51 => ?_) (fun c_51 => ?_)
                    · skip
                      refine lv_iconst (v := nI 0) hx hb d_Mo_next_112 (by decide) ?_
                      rw [← hQ]
                      exact gc_iret hx hb hr hlk hP hS d_Mo_next_113 ⟨rfl, rfl, congrArg nI (by first | omega | unfold nxS; rw [← hj_11.1, ← hj_24.1, ← hj_37.1, ← hj_54.1]; unfold nxM; (repeat (first | rw [if_pos (by omega)] | rw [if_neg (by omega)])))⟩
                    · skip
                      refine lv_iconst (v := nI 1) hx hb d_Mo_next_108 (by decide) ?_
                      refine lv_goto (tgt := 113) hx hb d_Mo_next_109 (by decide) ?_
                      rw [← hQ]
                      exact gc_iret hx hb hr hlk hP hS d_Mo_next_113 ⟨rfl, rfl, congrArg nI (by first | omega | unfold nxS; rw [← hj_11.1, ← hj_24.1, ← hj_37.1, ← hj_54.1]; unfold nxM; (repeat (first | rw [if_pos (by omega)] | rw [if_neg (by omega)])))⟩
              · skip
                refine lv_iload hx hb d_Mo_next_80 (lv_at hl 8 rfl) ?_
                refine lz_ne (tgt := 92) hx hb d_Mo_next_82 (by decide) (by omega) (fun c_52 => ?_) (fun c_52 => ?_)
                · skip
                  refine lv_iload hx hb d_Mo_next_92 (lv_at hl 0 rfl) ?_
                  refine lv_iconst (v := nI 1) hx hb d_Mo_next_94 (by decide) ?_
                  refine ln_ne (tgt := 114) hx hb d_Mo_next_95 (by decide) (by omega) (by omega) (fun c_53 => ?_) (fun c_53 => ?_)
                  · skip
                    refine lv_iload hx hb d_Mo_next_114 (lv_at hl 0 rfl) ?_
                    refine lv_iconst (v := nI 2) hx hb d_Mo_next_116 (by decide) ?_
                    refine ln_ne (tgt := 132) hx hb d_Mo_next_117 (by decide) (by omega) (by omega) (fun c_54 => ?_) (fun c_54 => ?_)
                    · skip
                      refine lv_iload hx hb d_Mo_next_132 (lv_at hl 6 rfl) ?_
                      refine lz_eq (tgt := 139) hx hb d_Mo_next_134 (by decide) (by omega) (fun c_55 => ?_) (fun c_55 => ?_)
                      · omega
                      · skip
                        refine lv_iconst (v := nI 0) hx hb d_Mo_next_137 (by decide) ?_
                        rw [← hQ]
                        exact gc_iret hx hb hr hlk hP hS d_Mo_next_138 ⟨rfl, rfl, congrArg nI (by first | omega | unfold nxS; rw [← hj_11.1, ← hj_24.1, ← hj_37.1, ← hj_54.1]; unfold nxM; (repeat (first | rw [if_pos (by omega)] | rw [if_neg (by omega)])))⟩
                    · skip
                      refine lv_iload hx hb d_Mo_next_120 (lv_at hl 1 rfl) ?_
                      refine lz_eq (tgt := 130) hx hb d_Mo_next_122 (by decide) (by omega) (fun c_56 => ?_) (fun c_56 => ?_)
                      · skip
                        refine lv_iconst (v := nI 0) hx hb d_Mo_next_130 (by decide) ?_
                        rw [← hQ]
                        exact gc_iret hx hb hr hlk hP hS d_Mo_next_131 ⟨rfl, rfl, congrArg nI (by first | omega | unfold nxS; rw [← hj_11.1, ← hj_24.1, ← hj_37.1, ← hj_54.1]; unfold nxM; (repeat (first | rw [if_pos (by omega)] | rw [if_neg (by omega)])))⟩
                      · skip
                        refine lv_iload hx hb d_Mo_next_125 (lv_at hl 7 rfl) ?_
                        refine lz_ne (tgt := 132) hx hb d_Mo_next_127 (by decide) (by omega) (fun c_57 => ?_) (fun c_57 => ?_)
                        · skip
                          refine lv_iload hx hb d_Mo_next_132 (lv_at hl 6 rfl) ?_
                          refine lz_eq (tgt := 139) hx hb d_Mo_next_134 (by decide) (by omega) (fun c_58 => ?_) (fun c_58 => ?_)
                          · omega
                          · skip
                            refine lv_iconst (v := nI 0) hx hb d_Mo_next_137 (by decide) ?_
                            rw [← hQ]
                            exact gc_iret hx hb hr hlk hP hS d_Mo_next_138 ⟨rfl, rfl, congrArg nI (by first | omega | unfold nxS; rw [← hj_11.1, ← hj_24.1, ← hj_37.1, ← hj_54.1]; unfold nxM; (repeat (first | rw [if_pos (by omega)] | rw [if_neg (by omega)])))⟩
                        · omega
                  · skip
                    refine lv_iload_n hx hb d_Mo_next_98 rfl (lv_at hl 5 rfl) ?_
                    refine lv_iconst (v := nI 1) hx hb d_Mo_next_99 (by decide) ?_
                    refine ln_ne (tgt := 112) hx hb d_Mo_next_100 (by decide) (by omega) (by omega) (fun c_59 => ?_) (fun c_59 => ?_)
                    · skip
                      refine lv_iconst (v := nI 0) hx hb d_Mo_next_112 (by decide) ?_
                      rw [← hQ]
                      exact gc_iret hx hb hr hlk hP hS d_Mo_next_113 ⟨rfl, rfl, congrArg nI (by first | omega | unfold nxS; rw [← hj_11.1, ← hj_24.1, ← hj_37.1, ← hj_54.1]; unfold nxM; (repeat (first | rw [if_pos (by omega)] | rw [if_neg (by omega)])))⟩
                    · skip
                      refine lv_iload hx hb d_Mo_next_103 (lv_at hl 1 rfl) ?_
                      refine lz_eq (tgt := 112) hx hb d_Mo_next_105 (by decide) (by omega) (fun c_60 => ?_) (fun c_60 => ?_)
                      · skip
                        refine lv_iconst (v := nI 0) hx hb d_Mo_next_112 (by decide) ?_
                        rw [← hQ]
                        exact gc_iret hx hb hr hlk hP hS d_Mo_next_113 ⟨rfl, rfl, congrArg nI (by first | omega | unfold nxS; rw [← hj_11.1, ← hj_24.1, ← hj_37.1, ← hj_54.1]; unfold nxM; (repeat (first | rw [if_pos (by omega)] | rw [if_neg (by omega)])))⟩
                      · skip
                        refine lv_iconst (v := nI 1) hx hb d_Mo_next_108 (by decide) ?_
                        refine lv_goto (tgt := 113) hx hb d_Mo_next_109 (by decide) ?_
                        rw [← hQ]
                        exact gc_iret hx hb hr hlk hP hS d_Mo_next_113 ⟨rfl, rfl, congrArg nI (by first | omega | unfold nxS; rw [← hj_11.1, ← hj_24.1, ← hj_37.1, ← hj_54.1]; unfold nxM; (repeat (first | rw [if_pos (by omega)] | rw [if_neg (by omega)])))⟩
                · skip
                  refine lv_iload hx hb d_Mo_next_85 (lv_at hl 1 rfl) ?_
                  refine lz_ne (tgt := 92) hx hb d_Mo_next_87 (by decide) (by omega) (fun c_61 => ?_) (fun c_61 => ?_)
                  · skip
                    refine lv_iload hx hb d_Mo_next_92 (lv_at hl 0 rfl) ?_
                    refine lv_iconst (v := nI 1) hx hb d_Mo_next_94 (by decide) ?_
                    refine ln_ne (tgt := 114) hx hb d_Mo_next_95 (by decide) (by omega) (by omega) (fun c_62 => ?_) (fun c_62 => ?_)
                    · skip
                      refine lv_iload hx hb d_Mo_next_114 (lv_at hl 0 rfl) ?_
                      refine lv_iconst (v := nI 2) hx hb d_Mo_next_116 (by decide) ?_
                      refine ln_ne (tgt := 132) hx hb d_Mo_next_117 (by decide) (by omega) (by omega) (fun c_63 => ?_) (fun c_63 => ?_)
                      · skip
                        refine lv_iload hx hb d_Mo_next_132 (lv_at hl 6 rfl) ?_
                        refine lz_eq (tgt := 139) hx hb d_Mo_next_134 (by decide) (by omega) (fun c_64 => ?_) (fun c_64 => ?_)
                        · omega
                        · skip
                          refine lv_iconst (v := nI 0) hx hb d_Mo_next_137 (by decide) ?_
                          rw [← hQ]
                          exact gc_iret hx hb hr hlk hP hS d_Mo_next_138 ⟨rfl, rfl, congrArg nI (by first | omega | unfold nxS; rw [← hj_11.1, ← hj_24.1, ← hj_37.1, ← hj_54.1]; unfold nxM; (repeat (first | rw [if_pos (by omega)] | rw [if_neg (by omega)])))⟩
                      · skip
                        refine lv_iload hx hb d_Mo_next_120 (lv_at hl 1 rfl) ?_
                        refine lz_eq (tgt := 130) hx hb d_Mo_next_122 (by decide) (by omega) (fun c_65 => ?_) (fun c_65 => ?_)
                        · omega
                        · skip
                          refine lv_iload hx hb d_Mo_next_125 (lv_at hl 7 rfl) ?_
                          refine lz_ne (tgt := 132) hx hb d_Mo_next_127 (by decide) (by omega) (fun c_66 => ?_) (fun c_66 => ?_)
                          · skip
                            refine lv_iload hx hb d_Mo_next_132 (lv_at hl 6 rfl) ?_
                            refine lz_eq (tgt := 139) hx hb d_Mo_next_134 (by decide) (by omega) (fun c_67 => ?_) (fun c_67 => ?_)
                            · omega
                            · skip
                              refine lv_iconst (v := nI 0) hx hb d_Mo_next_137 (by decide) ?_
                              rw [← hQ]
                              exact gc_iret hx hb hr hlk hP hS d_Mo_next_138 ⟨rfl, rfl, congrArg nI (by first | omega | unfold nxS; rw [← hj_11.1, ← hj_24.1, ← hj_37.1, ← hj_54.1]; unfold nxM; (repeat (first | rw [if_pos (by omega)] | rw [if_neg (by omega)])))⟩
                          · omega
                    · skip
                      refine lv_iload_n hx hb d_Mo_next_98 rfl (lv_at hl 5 rfl) ?_
                      refine lv_iconst (v := nI 1) hx hb d_Mo_next_99 (by decide) ?_
                      refine ln_ne (tgt := 112) hx hb d_Mo_next_100 (by decide) (by omega) (by omega) (fun c_68 => ?_) (fun c_68 => ?_)
                      · skip
                        refine lv_iconst (v := nI 0) hx hb d_Mo_next_112 (by decide) ?_
                        rw [← hQ]
                        exact gc_iret hx hb hr hlk hP hS d_Mo_next_113 ⟨rfl, rfl, congrArg nI (by first | omega | unfold nxS; rw [← hj_11.1, ← hj_24.1, ← hj_37.1, ← hj_54.1]; unfold nxM; (repeat (first | rw [if_pos (by omega)] | rw [if_neg (by omega)])))⟩
                      · skip
                        refine lv_iload hx hb d_Mo_next_103 (lv_at hl 1 rfl) ?_
                        refine lz_eq (tgt := 112) hx hb d_Mo_next_105 (by decide) (by omega) (fun c_69 => ?_) (fun c_69 => ?_)
                        · omega
                        · skip
                          refine lv_iconst (v := nI 1) hx hb d_Mo_next_108 (by decide) ?_
                          refine lv_goto (tgt := 113) hx hb d_Mo_next_109 (by decide) ?_
                          rw [← hQ]
                          exact gc_iret hx hb hr hlk hP hS d_Mo_next_113 ⟨rfl, rfl, congrArg nI (by first | omega | unfold nxS; rw [← hj_11.1, ← hj_24.1, ← hj_37.1, ← hj_54.1]; unfold nxM; (repeat (first | rw [if_pos (by omega)] | rw [if_neg (by omega)])))⟩
                  · skip
                    refine lv_iconst (v := nI 2) hx hb d_Mo_next_90 (by decide) ?_
                    rw [← hQ]
                    exact gc_iret hx hb hr hlk hP hS d_Mo_next_91 ⟨rfl, rfl, congrArg nI (by first | omega | unfold nxS; rw [← hj_11.1, ← hj_24.1, ← hj_37.1, ← hj_54.1]; unfold nxM; (repeat (first | rw [if_pos (by omega)] | rw [if_neg (by omega)])))⟩
        · skip
          refine lv_iload_n hx hb d_Mo_next_39 rfl (lv_at hl 3 rfl) ?_
          refine lv_aload_n hx hb d_Mo_next_40 rfl (lv_at hl 1 rfl) ?_
          refine gm_get (C := R_Mo) (T := F_Mo) (n := 44) hx hb htl i_Mo hown hK hP eh rfl 27 (by decide) (htl _ k_770) (fun _ h => h) rfl d_Mo_next_41 ?_
          refine lv_iload_n hx hb d_Mo_next_44 rfl (lv_at hl 2 rfl) ?_
          refine gz_iald hx hb hK hP 0 m22 rfl (by omega) (by omega) d_Mo_next_45 ?_
          rw [show (mq 8) k = 1 - fl k 6 from (hRF k (by omega)).2.2.2.2.2.2.2.2.1]
          have b_70 := (hF k).2
          refine ln_ne (tgt := 53) hx hb d_Mo_next_46 (by decide) (by omega) (by omega) (fun c_71 => ?_) (fun c_71 => ?_)
          · skip
            refine lv_iconst (v := nI 0) hx hb d_Mo_next_53 (by decide) ?_
            exact jn_54 0 ls (lv_sub hl [1, 2, 3, 4, 5, 6, 0] rfl) ⟨by rw [if_neg c_71], by decide⟩
          · skip
            refine lv_iconst (v := nI 1) hx hb d_Mo_next_49 (by decide) ?_
            refine lv_goto (tgt := 54) hx hb d_Mo_next_50 (by decide) ?_
            exact jn_54 1 ls (lv_sub hl [1, 2, 3, 4, 5, 6, 0] rfl) ⟨by rw [if_pos c_71], by decide⟩
      · skip
        refine lv_iload_n hx hb d_Mo_next_26 rfl (lv_at hl 4 rfl) ?_
        refine lv_iconst (v := nI 4) hx hb d_Mo_next_27 (by decide) ?_
        refine lv_iand hx hb d_Mo_next_28 ?_
        rw [show (nI f0) &&& (nI 4) = nI (f0 &&& 4) from nx_and _ _]
        refine lz_eq (tgt := 36) hx hb d_Mo_next_29 (by decide) (by omega) (fun c_72 => ?_) (fun c_72 => ?_)
        · skip
          refine lv_iconst (v := nI 0) hx hb d_Mo_next_36 (by decide) ?_
          exact jn_37 0 ls (lv_sub hl [1, 2, 3, 4, 5, 0] rfl) (by unfold bitN; exact ⟨by rw [if_pos c_72], by decide⟩)
        · skip
          refine lv_iconst (v := nI 1) hx hb d_Mo_next_32 (by decide) ?_
          refine lv_goto (tgt := 37) hx hb d_Mo_next_33 (by decide) ?_
          exact jn_37 1 ls (lv_sub hl [1, 2, 3, 4, 5, 0] rfl) (by unfold bitN; exact ⟨by rw [if_neg c_72], by decide⟩)
    · skip
      refine lv_iload_n hx hb d_Mo_next_13 rfl (lv_at hl 4 rfl) ?_
      refine lv_iconst (v := nI 2) hx hb d_Mo_next_14 (by decide) ?_
      refine lv_iand hx hb d_Mo_next_15 ?_
      rw [show (nI f0) &&& (nI 2) = nI (f0 &&& 2) from nx_and _ _]
      refine lz_eq (tgt := 23) hx hb d_Mo_next_16 (by decide) (by omega) (fun c_73 => ?_) (fun c_73 => ?_)
      · skip
        refine lv_iconst (v := nI 0) hx hb d_Mo_next_23 (by decide) ?_
        exact jn_24 0 ls (lv_sub hl [1, 2, 3, 4, 0] rfl) (by unfold bitN; exact ⟨by rw [if_pos c_73], by decide⟩)
      · skip
        refine lv_iconst (v := nI 1) hx hb d_Mo_next_19 (by decide) ?_
        refine lv_goto (tgt := 24) hx hb d_Mo_next_20 (by decide) ?_
        exact jn_24 1 ls (lv_sub hl [1, 2, 3, 4, 0] rfl) (by unfold bitN; exact ⟨by rw [if_neg c_73], by decide⟩)
  · skip
    refine lv_iload_n hx hb d_Mo_next_0 rfl (lv_at hl 3 rfl) ?_
    refine lv_iconst (v := nI 1) hx hb d_Mo_next_1 (by decide) ?_
    refine lv_iand hx hb d_Mo_next_2 ?_
    rw [show (nI f0) &&& (nI 1) = nI (f0 &&& 1) from nx_and _ _]
    refine lz_eq (tgt := 10) hx hb d_Mo_next_3 (by decide) (by omega) (fun c_74 => ?_) (fun c_74 => ?_)
    · skip
      refine lv_iconst (v := nI 0) hx hb d_Mo_next_10 (by decide) ?_
      exact jn_11 0 ls (lv_sub hl [0, 1, 2, 3] rfl) (by unfold bitN; exact ⟨by rw [if_pos c_74], by decide⟩)
    · skip
      refine lv_iconst (v := nI 1) hx hb d_Mo_next_6 (by decide) ?_
      refine lv_goto (tgt := 11) hx hb d_Mo_next_7 (by decide) ?_
      exact jn_11 1 ls (lv_sub hl [0, 1, 2, 3] rfl) (by unfold bitN; exact ⟨by rw [if_neg c_74], by decide⟩)
end C38
