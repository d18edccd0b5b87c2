section C25
variable {l : Launch} {D : va_G} {ca : Nat → ClassId} {A : Nat → Prop} {G : gG} {N : Nat} {M : gm_M}

/-- the first number below n with P -/
def isF (P : Nat → Prop) (n : Nat) (o : Option Nat) : Prop := (∃ k, o = some k ∧ k < n ∧ P k ∧ ∀ j, j < k → ¬ P j) ∨ (o = none ∧ ∀ j, j < n → ¬ P j)
theorem isF_ex (P : Nat → Prop) : ∀ n, ∃ o, isF P n o := by
  intro n
  by_cases h : ∃ k, k < n ∧ P k
  · obtain ⟨k, ⟨h1, h2⟩, h3⟩ := pk_least (fun k => k < n ∧ P k) h
    exact ⟨some k, Or.inl ⟨k, rfl, h1, h2, fun j hj q => h3 j hj ⟨by omega, q⟩⟩⟩
  · exact ⟨none, Or.inr ⟨rfl, fun j hj q => h ⟨j, hj, q⟩⟩⟩
theorem isF_un {P : Nat → Prop} {n : Nat} {o o2 : Option Nat} (h : isF P n o) (h2 : isF P n o2) : o = o2 := by
  rcases h with ⟨k, rfl, a, b, c⟩ | ⟨rfl, a⟩ <;> rcases h2 with ⟨k2, rfl, a2, b2, c2⟩ | ⟨rfl, a2⟩
  · rcases Nat.lt_trichotomy k k2 with q | q | q
    · exact absurd b (c2 k q)
    · rw [q]
    · exact absurd b2 (c k2 q)
  · exact absurd b (a2 k a)
  · exact absurd b2 (a k2 a2)
  · rfl
noncomputable def ffP (P : Nat → Prop) (n : Nat) : Option Nat := Classical.choose (isF_ex P n)
theorem ffP_is (P : Nat → Prop) (n : Nat) : isF P n (ffP P n) := Classical.choose_spec (isF_ex P n)
theorem ffP_some {P : Nat → Prop} {n k : Nat} (h1 : k < n) (h2 : P k) (h3 : ∀ j, j < k → ¬ P j) : ffP P n = some k := isF_un (ffP_is P n) (Or.inl ⟨k, rfl, h1, h2, h3⟩)
theorem ffP_none {P : Nat → Prop} {n : Nat} (h : ∀ j, j < n → ¬ P j) : ffP P n = none := isF_un (ffP_is P n) (Or.inr ⟨rfl, h⟩)
/-- the public port that the inside endpoint b of protocol a has; the inside endpoint of the port b -/
noncomputable def mpP (ne : Nat) (pp po pi : Nat → Nat) (nf : Nat) (fl : Nat → Nat → Nat) (a b : Nat) : Option Nat := match ffP (fun k => pp k = a ∧ pi k = b) ne with
  | some k => some (po k)
  | none => (ffP (fun k => fl k 0 = a ∧ fl k 1 = b) nf).map (fun k => fl k 3)
noncomputable def mpE (ne : Nat) (pp po pi : Nat → Nat) (nf : Nat) (fl : Nat → Nat → Nat) (a b : Nat) : Option Nat := match ffP (fun k => pp k = a ∧ po k = b) ne with
  | some k => some (pi k)
  | none => (ffP (fun k => fl k 0 = a ∧ fl k 3 = b) nf).map (fun k => fl k 1)
noncomputable def polF (ru lw hw : Nat → Nat → Nat) (n d pr s t : Nat) : Nat := match ffP (fun k => mat (ru k 1) (ru k 2) (lw k) (hw k) d pr s t) n with
  | some k => ru k 0
  | none => 1
theorem pol_F {ru lw hw : Nat → Nat → Nat} {n d pr s t a : Nat} (h : pol ru lw hw n d pr s t a) : polF ru lw hw n d pr s t = a := by
  rcases h with ⟨k, h1, h2, h3, rfl⟩ | ⟨h1, rfl⟩
  · unfold polF; rw [ffP_some h1 h2 h3]
  · unfold polF; rw [ffP_none h1]
/-- the least port from 100 to 111 that no flow of the protocol has -/
noncomputable def freeF (fl : Nat → Nat → Nat) (nf a : Nat) : Option Nat := (ffP (fun q => ¬ used fl nf a (100 + q)) 12).map (fun q => 100 + q)
theorem freeF_some {fl : Nat → Nat → Nat} {nf a k : Nat} (h1 : 100 ≤ k ∧ k ≤ 111) (h2 : ¬ used fl nf a k) (h3 : ∀ q, 100 ≤ q → q < k → used fl nf a q) : freeF fl nf a = some k := by
  unfold freeF
  rw [ffP_some (k := k - 100) (by omega) (by rw [show 100 + (k - 100) = k by omega]; exact h2) (fun j hj q => q (h3 _ (by omega) (by omega)))]
  simp; omega
theorem freeF_none {fl : Nat → Nat → Nat} {nf a : Nat} (h : ∀ q, 100 ≤ q → q ≤ 111 → used fl nf a q) : freeF fl nf a = none := by
  unfold freeF
  rw [ffP_none (fun j hj q => q (h _ (by omega) (by omega)))]; rfl
def eUp (em : Nat → Nat) (a b c d : Nat) : Nat → Nat := va_up (va_up (va_up (va_up em 0 a) 1 b) 2 c) 3 d
/-- a new flow -/
def newF (fl : Nat → Nat → Nat) (nf pr ins out pub op tm : Nat) : Nat → Nat → Nat := va_up fl nf (fun q => [pr, ins, out, pub, if pr = 0 then 1 else 6, tm, op, 0].getD q 0)
theorem newF_self0 {fl : Nat → Nat → Nat} {nf pr ins out pub op tm : Nat} (h : pr = 0) : newF fl nf pr ins out pub op tm nf = fun q => [pr, ins, out, pub, 1, tm, op, 0].getD q 0 := by unfold newF; rw [va_up_self, if_pos h]
theorem newF_self6 {fl : Nat → Nat → Nat} {nf pr ins out pub op tm : Nat} (h : ¬ pr = 0) : newF fl nf pr ins out pub op tm nf = fun q => [pr, ins, out, pub, 6, tm, op, 0].getD q 0 := by unfold newF; rw [va_up_self, if_neg h]
theorem newF_ne {fl : Nat → Nat → Nat} {nf pr ins out pub op tm i : Nat} (h : i ≠ nf) : newF fl nf pr ins out pub op tm i = fl i := by unfold newF; rw [va_up_ne _ _ h]
noncomputable def openO (ne : Nat) (pp po pi : Nat → Nat) (nf : Nat) (fl : Nat → Nat → Nat) (em : Nat → Nat) (cs so ta tm pr f : Nat) : Int32 × (Nat → Nat → Nat) × Nat × (Nat → Nat) × Nat :=
  if pr = 0 ∧ ¬ f = 1 then (-6, fl, nf, em, cs) else if nf = 16 then (-7, fl, nf, em, cs) else match (mpP ne pp po pi nf fl pr so).or (freeF fl nf pr) with
  | none => (-7, fl, nf, em, cs)
  | some p => (nI 0, newF fl nf pr so ta p 1 tm, nf + 1, eUp em 200 p (ta / 256) (ta % 256), cs)
noncomputable def openI (nf : Nat) (fl : Nat → Nat → Nat) (em : Nat → Nat) (cs so ta tm pr f ins : Nat) : Int32 × (Nat → Nat → Nat) × Nat × (Nat → Nat) × Nat :=
  if pr = 0 ∧ ¬ f = 1 then (-6, fl, nf, em, cs) else if nf = 16 then (-7, fl, nf, em, cs) else (nI 0, newF fl nf pr ins so (ta % 256) 0 tm, nf + 1, eUp em (so / 256) (so % 256) (ins / 256) (ins % 256), cs)
theorem mpP_1 {ne : Nat} {pp po pi : Nat → Nat} {nf : Nat} {fl : Nat → Nat → Nat} {a b k : Nat} (h1 : k < ne) (h2 : pp k = a ∧ pi k = b) (h3 : ∀ j, j < k → ¬ (pp j = a ∧ pi j = b)) : mpP ne pp po pi nf fl a b = some (po k) := by unfold mpP; rw [ffP_some h1 h2 h3]
theorem mpP_2 {ne : Nat} {pp po pi : Nat → Nat} {nf : Nat} {fl : Nat → Nat → Nat} {a b k : Nat} (h0 : ∀ j, j < ne → ¬ (pp j = a ∧ pi j = b)) (h1 : k < nf) (h2 : fl k 0 = a ∧ fl k 1 = b) (h3 : ∀ j, j < k → ¬ (fl j 0 = a ∧ fl j 1 = b)) : mpP ne pp po pi nf fl a b = some (fl k 3) := by unfold mpP; rw [ffP_none h0, ffP_some h1 h2 h3]; rfl
theorem mpP_3 {ne : Nat} {pp po pi : Nat → Nat} {nf : Nat} {fl : Nat → Nat → Nat} {a b : Nat} (h0 : ∀ j, j < ne → ¬ (pp j = a ∧ pi j = b)) (h1 : ∀ j, j < nf → ¬ (fl j 0 = a ∧ fl j 1 = b)) : mpP ne pp po pi nf fl a b = none := by unfold mpP; rw [ffP_none h0, ffP_none h1]; rfl
theorem mpE_1 {ne : Nat} {pp po pi : Nat → Nat} {nf : Nat} {fl : Nat → Nat → Nat} {a b k : Nat} (h1 : k < ne) (h2 : pp k = a ∧ po k = b) (h3 : ∀ j, j < k → ¬ (pp j = a ∧ po j = b)) : mpE ne pp po pi nf fl a b = some (pi k) := by unfold mpE; rw [ffP_some h1 h2 h3]
theorem mpE_2 {ne : Nat} {pp po pi : Nat → Nat} {nf : Nat} {fl : Nat → Nat → Nat} {a b k : Nat} (h0 : ∀ j, j < ne → ¬ (pp j = a ∧ po j = b)) (h1 : k < nf) (h2 : fl k 0 = a ∧ fl k 3 = b) (h3 : ∀ j, j < k → ¬ (fl j 0 = a ∧ fl j 3 = b)) : mpE ne pp po pi nf fl a b = some (fl k 1) := by unfold mpE; rw [ffP_none h0, ffP_some h1 h2 h3]; rfl
theorem mpE_3 {ne : Nat} {pp po pi : Nat → Nat} {nf : Nat} {fl : Nat → Nat → Nat} {a b : Nat} (h0 : ∀ j, j < ne → ¬ (pp j = a ∧ po j = b)) (h1 : ∀ j, j < nf → ¬ (fl j 0 = a ∧ fl j 3 = b)) : mpE ne pp po pi nf fl a b = none := by unfold mpE; rw [ffP_none h0, ffP_none h1]; rfl
theorem okF_new {fl : Nat → Nat → Nat} {nf pr ins out pub op tm : Nat} (h : okF fl) (h0 : pr ≤ 2) (h1 : ins < 65536) (h2 : out < 65536) (h3 : pub < 65536) (h4 : op ≤ 1) (h5 : tm < 1000000) : okF (newF fl nf pr ins out pub op tm) := by
  intro i
  unfold newF
  by_cases q : i = nf
  · subst q
    rw [va_up_self]
    have h6 : (if pr = 0 then 1 else 6) ≤ 7 := by split <;> omega
    refine ⟨fun q => ?_, h0, h1, h2, h6, h4, (by decide : (0 : Nat) ≤ 1)⟩
    match q with
    | 0 => exact Nat.lt_of_le_of_lt h0 (by decide)
    | 1 => exact Nat.lt_trans h1 (by decide)
    | 2 => exact Nat.lt_trans h2 (by decide)
    | 3 => exact Nat.lt_trans h3 (by decide)
    | 4 => exact Nat.lt_of_le_of_lt h6 (by decide)
    | 5 => exact h5
    | 6 => exact Nat.lt_of_le_of_lt h4 (by decide)
    | 7 => exact (by decide : (0 : Nat) < 1000000)
    | q + 8 => exact (by decide : (0 : Nat) < 1000000)
  · rw [va_up_ne _ _ q]; exact h i
set_option maxHeartbeats 4000000 in
set_option maxRecDepth 100000 in
theorem c_Pg_openOutward {g cu be so ta tm lt nt : Nat} {bp : Int32} {ne : Nat} {pp : Nat → Nat} {po : Nat → Nat} {pi : Nat → Nat} {nf : Nat} {fa : Nat → Nat} {em : Nat → Nat} {fl : Nat → Nat → Nat} {pr0 f0 : Nat} (eg : M g = some (.inr (8, [.ref (g + 1), .ref (g + 3), .ref (g + 4), .ref (g + 57), .ref (g + 59), .ref (g + 63), .ref (g + 81), .ref cu, .ref be, .int (nI so), .int (nI ta), .int (nI tm), .int (nI lt), .int (nI nt), .int bp]))) (ex0 : M (g + 59) = some (.inr (1, [.ref (g + 60), .ref (g + 61), .ref (g + 62), .int (nI ne)]))) (ex1 : M (g + 60) = some (.inl (ca 0, 4, .inl (iN pp)))) (ex2 : M (g + 61) = some (.inl (ca 0, 4, .inl (iN po)))) (ex3 : M (g + 62) = some (.inl (ca 0, 4, .inl (iN pi)))) (ef : M (g + 63) = some (.inr (3, [.ref (g + 64), .int (nI nf)]))) (efa : M (g + 64) = some (.inl (ca 3, 16, .inr (.inr (.inr (.inr (oF fa))))))) (eem : M (g + 81) = some (.inl (ca 0, 4, .inl (iN em)))) (hne : ne ≤ 4) (hpp : ∀ k, pp k < 65536) (hpo : ∀ k, po k < 65536) (hpi : ∀ k, pi k < 65536) (hf : ∀ fi, fi < 16 → M (fa fi) = some (.inr (2, [.int (nI (fl fi 0)), .int (nI (fl fi 1)), .int (nI (fl fi 2)), .int (nI (fl fi 3)), .int (nI (fl fi 4)), .int (nI (fl fi 5)), .int (nI (fl fi 6)), .int (nI (fl fi 7))]))) (hnf : nf ≤ 16) (hA : okA (g + 65) fa) (hF : okF fl) (hso : so < 65536) (hta : ta < 65536) (htm : tm < 600000) (hpr0 : pr0 ≤ 2) (hf0 : f0 ≤ 15) (hF3 : ∀ k, k < nf → fl k 3 < 65536) : gC l D ca A G y_Pg_openOutward (.code y_Pg_openOutward b_Pg_openOutward 4 (some .int)) ({ frames := 2, cells := 0, slots := 0, locals := 46 }) N M [.ref g, .int (nI pr0), .int (nI f0)] gm_i (fun (r : Int32) (N1 : Nat) (M1 : gm_M) => N = N1 ∧ ∃ (r0 : Int32) (fl1 : Nat → Nat → Nat) (n1 : Nat) (em1 : Nat → Nat), (openO ne pp po pi nf fl em 0 so ta tm pr0 f0 = (r0, fl1, n1, em1, 0)) ∧ (n1 ≤ 16) ∧ (okF fl1) ∧ M1 (g + 63) = some (.inr (3, [.ref (g + 64), .int (nI n1)])) ∧ M1 (g + 81) = some (.inl (ca 0, 4, .inl (iN em1))) ∧ (∀ fi, fi < 16 → M1 (fa fi) = some (.inr (2, [.int (nI (fl1 fi 0)), .int (nI (fl1 fi 1)), .int (nI (fl1 fi 2)), .int (nI (fl1 fi 3)), .int (nI (fl1 fi 4)), .int (nI (fl1 fi 5)), .int (nI (fl1 fi 6)), .int (nI (fl1 fi 7))]))) ∧ (∀ z, z ≠ (g + 63) → z ≠ (g + 81) → ¬ ((g + 65) ≤ z ∧ z < (g + 65) + 16) → M1 z = M z) ∧ r0 = r) := by
  refine gm_body (by decide) (Nat.le_of_ble_eq_true rfl) (fun p e s m below meth c ls hx hb hr hts hown hlk hml hnm hP hK hN hX hS hl => ?_)
  have htl : ∀ w ∈ LW, w.before _ s = true := fun w h => hts w (List.mem_cons_of_mem _ h)
  have hown : s.vm.findClass "PacketGate" = some m.cls := hown
  have hl : lv_has ls 4 [(0, .ref g), (1, .int (nI pr0)), (2, .int (nI f0))] := hl
  have hfb : ∀ i q, fl i q < 1000000 := fun i q => (hF i).1 q
  refine lv_iload_n hx hb d_Pg_openOutward_0 rfl (lv_at hl 1 rfl) ?_
  refine lv_iload_n hx hb d_Pg_openOutward_1 rfl (lv_at hl 2 rfl) ?_
  refine gc_S (n := 2) [.int (nI pr0), .int (nI f0)] [] hx hb hml hown hts hK hN hX hP hS (c_Fl_canBegin pr0 f0 (by omega) (by omega)) k_630 k_631 k_8 k_632 (by decide +kernel) ⟨by decide, by decide⟩ rfl hl.1 rfl (Nat.le_of_ble_eq_true rfl) d_Pg_openOutward_2 ⟨by decide, by decide⟩ (fun r N1 M_1 H locs hw hP hS => ?_)
  obtain ⟨rfl, hw⟩ := hw
  rcases hw with ⟨c_2, rfl, rfl⟩ | ⟨c_3, rfl, rfl⟩
  · skip
    refine W.eq (g2 := F0 m 5 ls [.int (nI 1)]) rfl ?_
    refine lv_if_ne (tgt := 11) hx hb d_Pg_openOutward_5 (by decide) (fun _ => ?_) (fun q => absurd q (by decide))
    refine lv_aload_n hx hb d_Pg_openOutward_11 rfl (lv_at hl 0 rfl) ?_
    refine gm_get (C := R_Pg) (T := F_Pg) (n := 15) hx hb htl i_Pg hown hK hP eg rfl 5 (by decide) (htl _ k_202) (fun _ h => h) rfl d_Pg_openOutward_12 ?_
    refine gc_V (q := (R_Ft, F_Ft, 2)) (n := 0) [] [] hx hb hml hown hts hK hN hX hP hS (c_Ft_isFull ef efa hf (by omega) hA hF) rfl ef k_633 k_634 k_635 k_7 k_636 (by decide +kernel) ⟨by decide, by decide⟩ rfl hl.1 rfl (Nat.le_of_ble_eq_true rfl) d_Pg_openOutward_15 ⟨by decide, by decide⟩ (fun r N1 M_4 H locs hw hP hS => ?_)
    obtain ⟨rfl, hw⟩ := hw
    rcases hw with ⟨c_5, rfl, rfl⟩ | ⟨c_6, rfl, rfl⟩
    · skip
      refine W.eq (g2 := F0 m 18 ls [.int (nI 1)]) rfl ?_
      refine lv_if_eq (tgt := 24) hx hb d_Pg_openOutward_18 (by decide) (fun q => absurd q (by decide)) (fun _ => ?_)
      refine lv_bipush (v := (-7)) hx hb d_Pg_openOutward_21 (by decide) ?_
      exact gc_iret hx hb hr hlk hP hS d_Pg_openOutward_23 ⟨rfl, (-7), fl, nf, em, (by unfold openO; rw [if_neg (by omega), if_pos (by assumption)]), hnf, hF, ef, eem, hf, (fun z q0 q1 qr => rfl), rfl⟩
    · skip
      refine W.eq (g2 := F0 m 18 ls [.int (nI 0)]) rfl ?_
      refine lv_if_eq (tgt := 24) hx hb d_Pg_openOutward_18 (by decide) (fun _ => ?_) (fun q => absurd q (by decide))
      refine lv_aload_n hx hb d_Pg_openOutward_24 rfl (lv_at hl 0 rfl) ?_
      refine lv_iload_n hx hb d_Pg_openOutward_25 rfl (lv_at hl 1 rfl) ?_
      refine lv_aload_n hx hb d_Pg_openOutward_26 rfl (lv_at hl 0 rfl) ?_
      refine gm_get (C := R_Pg) (T := F_Pg) (n := 15) hx hb htl i_Pg hown hK hP eg rfl 9 (by decide) (htl _ k_206) (fun _ h => h) rfl d_Pg_openOutward_27 ?_
      refine gc_V (q := (R_Pg, F_Pg, 15)) (n := 2) [.int (nI pr0), .int (nI so)] [] hx hb hml hown hts hK hN hX hP hS (c_Pg_mappedPort eg ex0 ex1 ex2 ex3 ef efa (by omega) hpp hpo hpi hf (by omega) hA hF (by omega) (by omega)) rfl eg k_509 k_511 ks_Pg_mappedPort k_1 k_512 (by decide +kernel) ⟨by decide, by decide⟩ rfl hl.1 rfl (Nat.le_of_ble_eq_true rfl) d_Pg_openOutward_30 ⟨by decide, by decide⟩ (fun r N1 M_7 H locs hw hP hS => ?_)
      obtain ⟨rfl, hw⟩ := hw
      rcases hw with ⟨kv_8, c_9, c_10, c_11, rfl, rfl⟩ | ⟨kv_12, c_13, c_14, c_15, c_16, rfl, rfl⟩ | ⟨c_17, c_18, rfl, rfl⟩
      · skip
        refine W.eq (g2 := F0 m 33 ls [.int (nI (po kv_8))]) rfl ?_
        have hm_19 := mpP_1 (po := po) (pi := pi) (nf := nf) (fl := fl) c_9 c_10 c_11
        have b_20 := hpo kv_8
        refine lv_istore_n (lv' := [(3, .int (nI (po kv_8))), (0, .ref g), (1, .int (nI pr0)), (2, .int (nI f0))]) hx hb d_Pg_openOutward_33 rfl hl (by decide) rfl (fun ls hl => ?_)
        refine lv_iload_n hx hb d_Pg_openOutward_34 rfl (lv_at hl 0 rfl) ?_
        refine lv_iconst (v := (-1)) hx hb d_Pg_openOutward_35 (by decide) ?_
        refine lv_icmp_ne (tgt := 48) hx hb d_Pg_openOutward_36 (by decide) (fun _ => ?_) (fun q => absurd q (nI_nm1 (by omega)))
        refine lv_iload_n hx hb d_Pg_openOutward_48 rfl (lv_at hl 0 rfl) ?_
        refine lv_iconst (v := (-1)) hx hb d_Pg_openOutward_49 (by decide) ?_
        refine lv_icmp_ne (tgt := 56) hx hb d_Pg_openOutward_50 (by decide) (fun _ => ?_) (fun q => absurd q (nI_nm1 (by omega)))
        refine lv_aload_n hx hb d_Pg_openOutward_56 rfl (lv_at hl 1 rfl) ?_
        refine gm_get (C := R_Pg) (T := F_Pg) (n := 15) hx hb htl i_Pg hown hK hP eg rfl 5 (by decide) (htl _ k_202) (fun _ h => h) rfl d_Pg_openOutward_57 ?_
        refine gc_V (q := (R_Ft, F_Ft, 2)) (n := 0) [] [] hx hb hml hown hts hK hN hX hP hS (c_Ft_addSpare ef efa hf (by omega) hA hF (by omega)) rfl ef k_641 k_642 k_643 k_7 k_644 (by decide +kernel) ⟨by decide, by decide⟩ rfl hl.1 rfl (Nat.le_of_ble_eq_true rfl) d_Pg_openOutward_60 ⟨by decide, by decide⟩ (fun r N1 M_21 H locs hw hP hS => ?_)
        obtain ⟨rfl, hw⟩ := hw
        obtain ⟨rfl, rfl⟩ := hw
        have hP : gm_P D cls A N (gm_up M (g + 63) (.inr (3, [.ref (g + 64), .int (nI (nf + 1))]))) H := hP
        have h_22 := gm_pass (k := (g + 63)) (y := .inr (3, [.ref (g + 64), .int (nI (nf + 1))])) eg (gm_ne eg ef (fun h => by cases h))
        have h_23 := gm_pass (k := (g + 63)) (y := .inr (3, [.ref (g + 64), .int (nI (nf + 1))])) ex0 (gm_ne ex0 ef (fun h => by cases h))
        have h_24 := gm_pass (k := (g + 63)) (y := .inr (3, [.ref (g + 64), .int (nI (nf + 1))])) ex1 (gm_ne ex1 ef (fun h => by cases h))
        have h_25 := gm_pass (k := (g + 63)) (y := .inr (3, [.ref (g + 64), .int (nI (nf + 1))])) ex2 (gm_ne ex2 ef (fun h => by cases h))
        have h_26 := gm_pass (k := (g + 63)) (y := .inr (3, [.ref (g + 64), .int (nI (nf + 1))])) ex3 (gm_ne ex3 ef (fun h => by cases h))
        have h_27 := gm_pass (k := (g + 63)) (y := .inr (3, [.ref (g + 64), .int (nI (nf + 1))])) efa (gm_ne efa ef (fun h => by cases h))
        have h_28 := gm_pass (k := (g + 63)) (y := .inr (3, [.ref (g + 64), .int (nI (nf + 1))])) eem (gm_ne eem ef (fun h => by cases h))
        have h_29 := gm_up_self M (g + 63) (.inr (3, [.ref (g + 64), .int (nI (nf + 1))]))
        have hf_30 : ∀ fi, fi < 16 → (gm_up M (g + 63) (.inr (3, [.ref (g + 64), .int (nI (nf + 1))]))) (fa fi) = some (.inr (2, [.int (nI (fl fi 0)), .int (nI (fl fi 1)), .int (nI (fl fi 2)), .int (nI (fl fi 3)), .int (nI (fl fi 4)), .int (nI (fl fi 5)), .int (nI (fl fi 6)), .int (nI (fl fi 7))])) := fun fi hfi => gm_pass (k := (g + 63)) (y := .inr (3, [.ref (g + 64), .int (nI (nf + 1))])) (hf fi hfi) (gm_ne (hf fi hfi) ef (fun h => by cases h))
        refine W.eq (g2 := F0 m 63 ls [.ref (fa nf)]) rfl ?_
        refine lv_iload_n hx hb d_Pg_openOutward_63 rfl (lv_at hl 2 rfl) ?_
        refine lv_aload_n hx hb d_Pg_openOutward_64 rfl (lv_at hl 1 rfl) ?_
        refine gm_get (C := R_Pg) (T := F_Pg) (n := 15) hx hb htl i_Pg hown hK hP h_22 rfl 9 (by decide) (htl _ k_206) (fun _ h => h) rfl d_Pg_openOutward_65 ?_
        refine lv_aload_n hx hb d_Pg_openOutward_68 rfl (lv_at hl 1 rfl) ?_
        refine gm_get (C := R_Pg) (T := F_Pg) (n := 15) hx hb htl i_Pg hown hK hP h_22 rfl 10 (by decide) (htl _ k_207) (fun _ h => h) rfl d_Pg_openOutward_69 ?_
        refine lv_iload_n hx hb d_Pg_openOutward_72 rfl (lv_at hl 0 rfl) ?_
        refine lv_iconst (v := nI 1) hx hb d_Pg_openOutward_73 (by decide) ?_
        refine lv_aload_n hx hb d_Pg_openOutward_74 rfl (lv_at hl 1 rfl) ?_
        refine gm_get (C := R_Pg) (T := F_Pg) (n := 15) hx hb htl i_Pg hown hK hP h_22 rfl 11 (by decide) (htl _ k_208) (fun _ h => h) rfl d_Pg_openOutward_75 ?_
        refine gc_V (q := (R_Fl, F_Fl, 8)) (n := 6) [.int (nI pr0), .int (nI so), .int (nI ta), .int (nI (po kv_8)), .int (nI 1), .int (nI tm)] [] hx hb hml hown hts hK hN hX hP hS (c_Fl_begin (hf_30 nf (by omega)) (by omega) (by omega)) rfl (hf_30 nf (by omega)) k_645 k_646 k_647 k_8 k_648 (by decide +kernel) ⟨by decide, by decide⟩ rfl hl.1 rfl (Nat.le_of_ble_eq_true rfl) d_Pg_openOutward_78 ⟨by decide, by decide⟩ (fun r N1 M_31 H locs hw hP hS => ?_)
        obtain ⟨rfl, hw⟩ := hw
        rcases hw with ⟨c_32, rfl⟩ | ⟨c_33, rfl⟩
        · skip
          have hP : gm_P D cls A N (gm_up (gm_up M (g + 63) (.inr (3, [.ref (g + 64), .int (nI (nf + 1))]))) (fa nf) (.inr (2, [.int (nI pr0), .int (nI so), .int (nI ta), .int (nI (po kv_8)), .int (nI 1), .int (nI tm), .int (nI 1), .int (nI 0)]))) H := hP
          have h_34 := gm_pass (k := (fa nf)) (y := .inr (2, [.int (nI pr0), .int (nI so), .int (nI ta), .int (nI (po kv_8)), .int (nI 1), .int (nI tm), .int (nI 1), .int (nI 0)])) h_22 (gm_ne h_22 (hf_30 nf (by omega)) (fun h => by cases h))
          have h_35 := gm_pass (k := (fa nf)) (y := .inr (2, [.int (nI pr0), .int (nI so), .int (nI ta), .int (nI (po kv_8)), .int (nI 1), .int (nI tm), .int (nI 1), .int (nI 0)])) h_23 (gm_ne h_23 (hf_30 nf (by omega)) (fun h => by cases h))
          have h_36 := gm_pass (k := (fa nf)) (y := .inr (2, [.int (nI pr0), .int (nI so), .int (nI ta), .int (nI (po kv_8)), .int (nI 1), .int (nI tm), .int (nI 1), .int (nI 0)])) h_24 (gm_ne h_24 (hf_30 nf (by omega)) (fun h => by cases h))
          have h_37 := gm_pass (k := (fa nf)) (y := .inr (2, [.int (nI pr0), .int (nI so), .int (nI ta), .int (nI (po kv_8)), .int (nI 1), .int (nI tm), .int (nI 1), .int (nI 0)])) h_25 (gm_ne h_25 (hf_30 nf (by omega)) (fun h => by cases h))
          have h_38 := gm_pass (k := (fa nf)) (y := .inr (2, [.int (nI pr0), .int (nI so), .int (nI ta), .int (nI (po kv_8)), .int (nI 1), .int (nI tm), .int (nI 1), .int (nI 0)])) h_26 (gm_ne h_26 (hf_30 nf (by omega)) (fun h => by cases h))
          have h_39 := gm_pass (k := (fa nf)) (y := .inr (2, [.int (nI pr0), .int (nI so), .int (nI ta), .int (nI (po kv_8)), .int (nI 1), .int (nI tm), .int (nI 1), .int (nI 0)])) h_27 (gm_ne h_27 (hf_30 nf (by omega)) (fun h => by cases h))
          have h_40 := gm_pass (k := (fa nf)) (y := .inr (2, [.int (nI pr0), .int (nI so), .int (nI ta), .int (nI (po kv_8)), .int (nI 1), .int (nI tm), .int (nI 1), .int (nI 0)])) h_28 (gm_ne h_28 (hf_30 nf (by omega)) (fun h => by cases h))
          have h_41 := gm_pass (k := (fa nf)) (y := .inr (2, [.int (nI pr0), .int (nI so), .int (nI ta), .int (nI (po kv_8)), .int (nI 1), .int (nI tm), .int (nI 1), .int (nI 0)])) h_29 (gm_ne h_29 (hf_30 nf (by omega)) (fun h => by cases h))
          have h_42 := gm_up_self (gm_up M (g + 63) (.inr (3, [.ref (g + 64), .int (nI (nf + 1))]))) (fa nf) (.inr (2, [.int (nI pr0), .int (nI so), .int (nI ta), .int (nI (po kv_8)), .int (nI 1), .int (nI tm), .int (nI 1), .int (nI 0)]))
          have hf_43 : ∀ fi, fi < 16 → (gm_up (gm_up M (g + 63) (.inr (3, [.ref (g + 64), .int (nI (nf + 1))]))) (fa nf) (.inr (2, [.int (nI pr0), .int (nI so), .int (nI ta), .int (nI (po kv_8)), .int (nI 1), .int (nI tm), .int (nI 1), .int (nI 0)]))) (fa fi) = some (.inr (2, [.int (nI ((newF fl nf pr0 so ta (po kv_8) 1 tm) fi 0)), .int (nI ((newF fl nf pr0 so ta (po kv_8) 1 tm) fi 1)), .int (nI ((newF fl nf pr0 so ta (po kv_8) 1 tm) fi 2)), .int (nI ((newF fl nf pr0 so ta (po kv_8) 1 tm) fi 3)), .int (nI ((newF fl nf pr0 so ta (po kv_8) 1 tm) fi 4)), .int (nI ((newF fl nf pr0 so ta (po kv_8) 1 tm) fi 5)), .int (nI ((newF fl nf pr0 so ta (po kv_8) 1 tm) fi 6)), .int (nI ((newF fl nf pr0 so ta (po kv_8) 1 tm) fi 7))])) := fun fi hfi => by
            by_cases q : fi = nf
            · subst q; rw [newF_self0 c_32]; exact gm_up_self _ _ _
            · rw [newF_ne q]; exact (gm_pass (hf_30 fi hfi) (fun z => q (hA.2 fi nf hfi (by omega) z)))
          refine W.eq (g2 := F0 m 81 ls []) rfl ?_
          refine lv_aload_n hx hb d_Pg_openOutward_81 rfl (lv_at hl 1 rfl) ?_
          refine lv_iload_n hx hb d_Pg_openOutward_82 rfl (lv_at hl 0 rfl) ?_
          refine gc_V (q := (R_Pg, F_Pg, 15)) (n := 1) [.int (nI (po kv_8))] [] hx hb hml hown hts hK hN hX hP hS (c_Pg_sendOut h_34 h_40 (by omega) (by omega)) rfl h_34 k_597 k_599 ks_Pg_sendOut k_1 k_600 (by decide +kernel) ⟨by decide, by decide⟩ rfl hl.1 rfl (Nat.le_of_ble_eq_true rfl) d_Pg_openOutward_83 ⟨by decide, by decide⟩ (fun r N1 M_44 H locs hw hP hS => ?_)
          obtain ⟨rfl, hw⟩ := hw
          obtain ⟨rfl, rfl⟩ := hw
          have hP : gm_P D cls A N (gm_up (gm_up (gm_up M (g + 63) (.inr (3, [.ref (g + 64), .int (nI (nf + 1))]))) (fa nf) (.inr (2, [.int (nI pr0), .int (nI so), .int (nI ta), .int (nI (po kv_8)), .int (nI 1), .int (nI tm), .int (nI 1), .int (nI 0)]))) (g + 81) (.inl (ca 0, 4, .inl (iN (va_up (va_up (va_up (va_up em 0 200) 1 (po kv_8)) 2 (ta / 256)) 3 (ta % 256)))))) H := hP
          have h_45 := gm_pass (k := (g + 81)) (y := .inl (ca 0, 4, .inl (iN (va_up (va_up (va_up (va_up em 0 200) 1 (po kv_8)) 2 (ta / 256)) 3 (ta % 256))))) h_34 (gm_ne h_34 h_40 (fun h => by cases h))
          have h_46 := gm_pass (k := (g + 81)) (y := .inl (ca 0, 4, .inl (iN (va_up (va_up (va_up (va_up em 0 200) 1 (po kv_8)) 2 (ta / 256)) 3 (ta % 256))))) h_35 (gm_ne h_35 h_40 (fun h => by cases h))
          have h_47 := gm_pass (k := (g + 81)) (y := .inl (ca 0, 4, .inl (iN (va_up (va_up (va_up (va_up em 0 200) 1 (po kv_8)) 2 (ta / 256)) 3 (ta % 256))))) h_36 (by omega)
          have h_48 := gm_pass (k := (g + 81)) (y := .inl (ca 0, 4, .inl (iN (va_up (va_up (va_up (va_up em 0 200) 1 (po kv_8)) 2 (ta / 256)) 3 (ta % 256))))) h_37 (by omega)
          have h_49 := gm_pass (k := (g + 81)) (y := .inl (ca 0, 4, .inl (iN (va_up (va_up (va_up (va_up em 0 200) 1 (po kv_8)) 2 (ta / 256)) 3 (ta % 256))))) h_38 (by omega)
          have h_50 := gm_pass (k := (g + 81)) (y := .inl (ca 0, 4, .inl (iN (va_up (va_up (va_up (va_up em 0 200) 1 (po kv_8)) 2 (ta / 256)) 3 (ta % 256))))) h_39 (gm_ne h_39 h_40 (fun h => by simp at h))
          have h_51 := gm_pass (k := (g + 81)) (y := .inl (ca 0, 4, .inl (iN (va_up (va_up (va_up (va_up em 0 200) 1 (po kv_8)) 2 (ta / 256)) 3 (ta % 256))))) h_41 (gm_ne h_41 h_40 (fun h => by cases h))
          have h_52 := gm_pass (k := (g + 81)) (y := .inl (ca 0, 4, .inl (iN (va_up (va_up (va_up (va_up em 0 200) 1 (po kv_8)) 2 (ta / 256)) 3 (ta % 256))))) h_42 (gm_ne h_42 h_40 (fun h => by cases h))
          have h_53 := gm_up_self (gm_up (gm_up M (g + 63) (.inr (3, [.ref (g + 64), .int (nI (nf + 1))]))) (fa nf) (.inr (2, [.int (nI pr0), .int (nI so), .int (nI ta), .int (nI (po kv_8)), .int (nI 1), .int (nI tm), .int (nI 1), .int (nI 0)]))) (g + 81) (.inl (ca 0, 4, .inl (iN (va_up (va_up (va_up (va_up em 0 200) 1 (po kv_8)) 2 (ta / 256)) 3 (ta % 256)))))
          have hf_54 : ∀ fi, fi < 16 → (gm_up (gm_up (gm_up M (g + 63) (.inr (3, [.ref (g + 64), .int (nI (nf + 1))]))) (fa nf) (.inr (2, [.int (nI pr0), .int (nI so), .int (nI ta), .int (nI (po kv_8)), .int (nI 1), .int (nI tm), .int (nI 1), .int (nI 0)]))) (g + 81) (.inl (ca 0, 4, .inl (iN (va_up (va_up (va_up (va_up em 0 200) 1 (po kv_8)) 2 (ta / 256)) 3 (ta % 256)))))) (fa fi) = some (.inr (2, [.int (nI ((newF fl nf pr0 so ta (po kv_8) 1 tm) fi 0)), .int (nI ((newF fl nf pr0 so ta (po kv_8) 1 tm) fi 1)), .int (nI ((newF fl nf pr0 so ta (po kv_8) 1 tm) fi 2)), .int (nI ((newF fl nf pr0 so ta (po kv_8) 1 tm) fi 3)), .int (nI ((newF fl nf pr0 so ta (po kv_8) 1 tm) fi 4)), .int (nI ((newF fl nf pr0 so ta (po kv_8) 1 tm) fi 5)), .int (nI ((newF fl nf pr0 so ta (po kv_8) 1 tm) fi 6)), .int (nI ((newF fl nf pr0 so ta (po kv_8) 1 tm) fi 7))])) := fun fi hfi => gm_pass (k := (g + 81)) (y := .inl (ca 0, 4, .inl (iN (va_up (va_up (va_up (va_up em 0 200) 1 (po kv_8)) 2 (ta / 256)) 3 (ta % 256))))) (hf_43 fi hfi) (gm_ne (hf_43 fi hfi) h_40 (fun h => by cases h))
          refine W.eq (g2 := F0 m 86 ls [.int (nI 0)]) rfl ?_
          exact gc_iret hx hb hr hlk hP hS d_Pg_openOutward_86 ⟨rfl, nI 0, _, _, _, (by unfold openO; rw [if_neg (by omega), if_neg (by omega), hm_19]; rfl), (by omega), okF_new hF (by omega) hso hta (by omega) (by decide) (by omega), h_51, h_53, hf_54, (fun z q0 q1 qr => (gm_up_ne _ _ q1).trans ((gm_up_ne _ _ (fun q => qr (by rw [q]; exact hA.1 nf (by omega)))).trans ((gm_up_ne _ _ q0).trans (rfl)))), rfl⟩
        · skip
          have hP : gm_P D cls A N (gm_up (gm_up M (g + 63) (.inr (3, [.ref (g + 64), .int (nI (nf + 1))]))) (fa nf) (.inr (2, [.int (nI pr0), .int (nI so), .int (nI ta), .int (nI (po kv_8)), .int (nI 6), .int (nI tm), .int (nI 1), .int (nI 0)]))) H := hP
          have h_55 := gm_pass (k := (fa nf)) (y := .inr (2, [.int (nI pr0), .int (nI so), .int (nI ta), .int (nI (po kv_8)), .int (nI 6), .int (nI tm), .int (nI 1), .int (nI 0)])) h_22 (gm_ne h_22 (hf_30 nf (by omega)) (fun h => by cases h))
          have h_56 := gm_pass (k := (fa nf)) (y := .inr (2, [.int (nI pr0), .int (nI so), .int (nI ta), .int (nI (po kv_8)), .int (nI 6), .int (nI tm), .int (nI 1), .int (nI 0)])) h_23 (gm_ne h_23 (hf_30 nf (by omega)) (fun h => by cases h))
          have h_57 := gm_pass (k := (fa nf)) (y := .inr (2, [.int (nI pr0), .int (nI so), .int (nI ta), .int (nI (po kv_8)), .int (nI 6), .int (nI tm), .int (nI 1), .int (nI 0)])) h_24 (gm_ne h_24 (hf_30 nf (by omega)) (fun h => by cases h))
          have h_58 := gm_pass (k := (fa nf)) (y := .inr (2, [.int (nI pr0), .int (nI so), .int (nI ta), .int (nI (po kv_8)), .int (nI 6), .int (nI tm), .int (nI 1), .int (nI 0)])) h_25 (gm_ne h_25 (hf_30 nf (by omega)) (fun h => by cases h))
          have h_59 := gm_pass (k := (fa nf)) (y := .inr (2, [.int (nI pr0), .int (nI so), .int (nI ta), .int (nI (po kv_8)), .int (nI 6), .int (nI tm), .int (nI 1), .int (nI 0)])) h_26 (gm_ne h_26 (hf_30 nf (by omega)) (fun h => by cases h))
          have h_60 := gm_pass (k := (fa nf)) (y := .inr (2, [.int (nI pr0), .int (nI so), .int (nI ta), .int (nI (po kv_8)), .int (nI 6), .int (nI tm), .int (nI 1), .int (nI 0)])) h_27 (gm_ne h_27 (hf_30 nf (by omega)) (fun h => by cases h))
          have h_61 := gm_pass (k := (fa nf)) (y := .inr (2, [.int (nI pr0), .int (nI so), .int (nI ta), .int (nI (po kv_8)), .int (nI 6), .int (nI tm), .int (nI 1), .int (nI 0)])) h_28 (gm_ne h_28 (hf_30 nf (by omega)) (fun h => by cases h))
          have h_62 := gm_pass (k := (fa nf)) (y := .inr (2, [.int (nI pr0), .int (nI so), .int (nI ta), .int (nI (po kv_8)), .int (nI 6), .int (nI tm), .int (nI 1), .int (nI 0)])) h_29 (gm_ne h_29 (hf_30 nf (by omega)) (fun h => by cases h))
          have h_63 := gm_up_self (gm_up M (g + 63) (.inr (3, [.ref (g + 64), .int (nI (nf + 1))]))) (fa nf) (.inr (2, [.int (nI pr0), .int (nI so), .int (nI ta), .int (nI (po kv_8)), .int (nI 6), .int (nI tm), .int (nI 1), .int (nI 0)]))
          have hf_64 : ∀ fi, fi < 16 → (gm_up (gm_up M (g + 63) (.inr (3, [.ref (g + 64), .int (nI (nf + 1))]))) (fa nf) (.inr (2, [.int (nI pr0), .int (nI so), .int (nI ta), .int (nI (po kv_8)), .int (nI 6), .int (nI tm), .int (nI 1), .int (nI 0)]))) (fa fi) = some (.inr (2, [.int (nI ((newF fl nf pr0 so ta (po kv_8) 1 tm) fi 0)), .int (nI ((newF fl nf pr0 so ta (po kv_8) 1 tm) fi 1)), .int (nI ((newF fl nf pr0 so ta (po kv_8) 1 tm) fi 2)), .int (nI ((newF fl nf pr0 so ta (po kv_8) 1 tm) fi 3)), .int (nI ((newF fl nf pr0 so ta (po kv_8) 1 tm) fi 4)), .int (nI ((newF fl nf pr0 so ta (po kv_8) 1 tm) fi 5)), .int (nI ((newF fl nf pr0 so ta (po kv_8) 1 tm) fi 6)), .int (nI ((newF fl nf pr0 so ta (po kv_8) 1 tm) fi 7))])) := fun fi hfi => by
            by_cases q : fi = nf
            · subst q; rw [newF_self6 c_33]; exact gm_up_self _ _ _
            · rw [newF_ne q]; exact (gm_pass (hf_30 fi hfi) (fun z => q (hA.2 fi nf hfi (by omega) z)))
          refine W.eq (g2 := F0 m 81 ls []) rfl ?_
          refine lv_aload_n hx hb d_Pg_openOutward_81 rfl (lv_at hl 1 rfl) ?_
          refine lv_iload_n hx hb d_Pg_openOutward_82 rfl (lv_at hl 0 rfl) ?_
          refine gc_V (q := (R_Pg, F_Pg, 15)) (n := 1) [.int (nI (po kv_8))] [] hx hb hml hown hts hK hN hX hP hS (c_Pg_sendOut h_55 h_61 (by omega) (by omega)) rfl h_55 k_597 k_599 ks_Pg_sendOut k_1 k_600 (by decide +kernel) ⟨by decide, by decide⟩ rfl hl.1 rfl (Nat.le_of_ble_eq_true rfl) d_Pg_openOutward_83 ⟨by decide, by decide⟩ (fun r N1 M_65 H locs hw hP hS => ?_)
          obtain ⟨rfl, hw⟩ := hw
          obtain ⟨rfl, rfl⟩ := hw
          have hP : gm_P D cls A N (gm_up (gm_up (gm_up M (g + 63) (.inr (3, [.ref (g + 64), .int (nI (nf + 1))]))) (fa nf) (.inr (2, [.int (nI pr0), .int (nI so), .int (nI ta), .int (nI (po kv_8)), .int (nI 6), .int (nI tm), .int (nI 1), .int (nI 0)]))) (g + 81) (.inl (ca 0, 4, .inl (iN (va_up (va_up (va_up (va_up em 0 200) 1 (po kv_8)) 2 (ta / 256)) 3 (ta % 256)))))) H := hP
          have h_66 := gm_pass (k := (g + 81)) (y := .inl (ca 0, 4, .inl (iN (va_up (va_up (va_up (va_up em 0 200) 1 (po kv_8)) 2 (ta / 256)) 3 (ta % 256))))) h_55 (gm_ne h_55 h_61 (fun h => by cases h))
          have h_67 := gm_pass (k := (g + 81)) (y := .inl (ca 0, 4, .inl (iN (va_up (va_up (va_up (va_up em 0 200) 1 (po kv_8)) 2 (ta / 256)) 3 (ta % 256))))) h_56 (gm_ne h_56 h_61 (fun h => by cases h))
          have h_68 := gm_pass (k := (g + 81)) (y := .inl (ca 0, 4, .inl (iN (va_up (va_up (va_up (va_up em 0 200) 1 (po kv_8)) 2 (ta / 256)) 3 (ta % 256))))) h_57 (by omega)
          have h_69 := gm_pass (k := (g + 81)) (y := .inl (ca 0, 4, .inl (iN (va_up (va_up (va_up (va_up em 0 200) 1 (po kv_8)) 2 (ta / 256)) 3 (ta % 256))))) h_58 (by omega)
          have h_70 := gm_pass (k := (g + 81)) (y := .inl (ca 0, 4, .inl (iN (va_up (va_up (va_up (va_up em 0 200) 1 (po kv_8)) 2 (ta / 256)) 3 (ta % 256))))) h_59 (by omega)
          have h_71 := gm_pass (k := (g + 81)) (y := .inl (ca 0, 4, .inl (iN (va_up (va_up (va_up (va_up em 0 200) 1 (po kv_8)) 2 (ta / 256)) 3 (ta % 256))))) h_60 (gm_ne h_60 h_61 (fun h => by simp at h))
          have h_72 := gm_pass (k := (g + 81)) (y := .inl (ca 0, 4, .inl (iN (va_up (va_up (va_up (va_up em 0 200) 1 (po kv_8)) 2 (ta / 256)) 3 (ta % 256))))) h_62 (gm_ne h_62 h_61 (fun h => by cases h))
          have h_73 := gm_pass (k := (g + 81)) (y := .inl (ca 0, 4, .inl (iN (va_up (va_up (va_up (va_up em 0 200) 1 (po kv_8)) 2 (ta / 256)) 3 (ta % 256))))) h_63 (gm_ne h_63 h_61 (fun h => by cases h))
          have h_74 := gm_up_self (gm_up (gm_up M (g + 63) (.inr (3, [.ref (g + 64), .int (nI (nf + 1))]))) (fa nf) (.inr (2, [.int (nI pr0), .int (nI so), .int (nI ta), .int (nI (po kv_8)), .int (nI 6), .int (nI tm), .int (nI 1), .int (nI 0)]))) (g + 81) (.inl (ca 0, 4, .inl (iN (va_up (va_up (va_up (va_up em 0 200) 1 (po kv_8)) 2 (ta / 256)) 3 (ta % 256)))))
          have hf_75 : ∀ fi, fi < 16 → (gm_up (gm_up (gm_up M (g + 63) (.inr (3, [.ref (g + 64), .int (nI (nf + 1))]))) (fa nf) (.inr (2, [.int (nI pr0), .int (nI so), .int (nI ta), .int (nI (po kv_8)), .int (nI 6), .int (nI tm), .int (nI 1), .int (nI 0)]))) (g + 81) (.inl (ca 0, 4, .inl (iN (va_up (va_up (va_up (va_up em 0 200) 1 (po kv_8)) 2 (ta / 256)) 3 (ta % 256)))))) (fa fi) = some (.inr (2, [.int (nI ((newF fl nf pr0 so ta (po kv_8) 1 tm) fi 0)), .int (nI ((newF fl nf pr0 so ta (po kv_8) 1 tm) fi 1)), .int (nI ((newF fl nf pr0 so ta (po kv_8) 1 tm) fi 2)), .int (nI ((newF fl nf pr0 so ta (po kv_8) 1 tm) fi 3)), .int (nI ((newF fl nf pr0 so ta (po kv_8) 1 tm) fi 4)), .int (nI ((newF fl nf pr0 so ta (po kv_8) 1 tm) fi 5)), .int (nI ((newF fl nf pr0 so ta (po kv_8) 1 tm) fi 6)), .int (nI ((newF fl nf pr0 so ta (po kv_8) 1 tm) fi 7))])) := fun fi hfi => gm_pass (k := (g + 81)) (y := .inl (ca 0, 4, .inl (iN (va_up (va_up (va_up (va_up em 0 200) 1 (po kv_8)) 2 (ta / 256)) 3 (ta % 256))))) (hf_64 fi hfi) (gm_ne (hf_64 fi hfi) h_61 (fun h => by cases h))
          refine W.eq (g2 := F0 m 86 ls [.int (nI 0)]) rfl ?_
          exact gc_iret hx hb hr hlk hP hS d_Pg_openOutward_86 ⟨rfl, nI 0, _, _, _, (by unfold openO; rw [if_neg (by omega), if_neg (by omega), hm_19]; rfl), (by omega), okF_new hF (by omega) hso hta (by omega) (by decide) (by omega), h_72, h_74, hf_75, (fun z q0 q1 qr => (gm_up_ne _ _ q1).trans ((gm_up_ne _ _ (fun q => qr (by rw [q]; exact hA.1 nf (by omega)))).trans ((gm_up_ne _ _ q0).trans (rfl)))), rfl⟩
      · skip
        refine W.eq (g2 := F0 m 33 ls [.int (nI (fl kv_12 3))]) rfl ?_
        have hm_76 := mpP_2 (po := po) (pi := pi) c_13 c_14 c_15 c_16
        have b_77 := (hF kv_12).2.2.1
        have b_78 := hF3 kv_12 c_14
        refine lv_istore_n (lv' := [(3, .int (nI (fl kv_12 3))), (0, .ref g), (1, .int (nI pr0)), (2, .int (nI f0))]) hx hb d_Pg_openOutward_33 rfl hl (by decide) rfl (fun ls hl => ?_)
        refine lv_iload_n hx hb d_Pg_openOutward_34 rfl (lv_at hl 0 rfl) ?_
        refine lv_iconst (v := (-1)) hx hb d_Pg_openOutward_35 (by decide) ?_
        refine lv_icmp_ne (tgt := 48) hx hb d_Pg_openOutward_36 (by decide) (fun _ => ?_) (fun q => absurd q (nI_nm1 (by omega)))
        refine lv_iload_n hx hb d_Pg_openOutward_48 rfl (lv_at hl 0 rfl) ?_
        refine lv_iconst (v := (-1)) hx hb d_Pg_openOutward_49 (by decide) ?_
        refine lv_icmp_ne (tgt := 56) hx hb d_Pg_openOutward_50 (by decide) (fun _ => ?_) (fun q => absurd q (nI_nm1 (by omega)))
        refine lv_aload_n hx hb d_Pg_openOutward_56 rfl (lv_at hl 1 rfl) ?_
        refine gm_get (C := R_Pg) (T := F_Pg) (n := 15) hx hb htl i_Pg hown hK hP eg rfl 5 (by decide) (htl _ k_202) (fun _ h => h) rfl d_Pg_openOutward_57 ?_
        refine gc_V (q := (R_Ft, F_Ft, 2)) (n := 0) [] [] hx hb hml hown hts hK hN hX hP hS (c_Ft_addSpare ef efa hf (by omega) hA hF (by omega)) rfl ef k_641 k_642 k_643 k_7 k_644 (by decide +kernel) ⟨by decide, by decide⟩ rfl hl.1 rfl (Nat.le_of_ble_eq_true rfl) d_Pg_openOutward_60 ⟨by decide, by decide⟩ (fun r N1 M_79 H locs hw hP hS => ?_)
        obtain ⟨rfl, hw⟩ := hw
        obtain ⟨rfl, rfl⟩ := hw
        have hP : gm_P D cls A N (gm_up M (g + 63) (.inr (3, [.ref (g + 64), .int (nI (nf + 1))]))) H := hP
        have h_80 := gm_pass (k := (g + 63)) (y := .inr (3, [.ref (g + 64), .int (nI (nf + 1))])) eg (gm_ne eg ef (fun h => by cases h))
        have h_81 := gm_pass (k := (g + 63)) (y := .inr (3, [.ref (g + 64), .int (nI (nf + 1))])) ex0 (gm_ne ex0 ef (fun h => by cases h))
        have h_82 := gm_pass (k := (g + 63)) (y := .inr (3, [.ref (g + 64), .int (nI (nf + 1))])) ex1 (gm_ne ex1 ef (fun h => by cases h))
        have h_83 := gm_pass (k := (g + 63)) (y := .inr (3, [.ref (g + 64), .int (nI (nf + 1))])) ex2 (gm_ne ex2 ef (fun h => by cases h))
        have h_84 := gm_pass (k := (g + 63)) (y := .inr (3, [.ref (g + 64), .int (nI (nf + 1))])) ex3 (gm_ne ex3 ef (fun h => by cases h))
        have h_85 := gm_pass (k := (g + 63)) (y := .inr (3, [.ref (g + 64), .int (nI (nf + 1))])) efa (gm_ne efa ef (fun h => by cases h))
        have h_86 := gm_pass (k := (g + 63)) (y := .inr (3, [.ref (g + 64), .int (nI (nf + 1))])) eem (gm_ne eem ef (fun h => by cases h))
        have h_87 := gm_up_self M (g + 63) (.inr (3, [.ref (g + 64), .int (nI (nf + 1))]))
        have hf_88 : ∀ fi, fi < 16 → (gm_up M (g + 63) (.inr (3, [.ref (g + 64), .int (nI (nf + 1))]))) (fa fi) = some (.inr (2, [.int (nI (fl fi 0)), .int (nI (fl fi 1)), .int (nI (fl fi 2)), .int (nI (fl fi 3)), .int (nI (fl fi 4)), .int (nI (fl fi 5)), .int (nI (fl fi 6)), .int (nI (fl fi 7))])) := fun fi hfi => gm_pass (k := (g + 63)) (y := .inr (3, [.ref (g + 64), .int (nI (nf + 1))])) (hf fi hfi) (gm_ne (hf fi hfi) ef (fun h => by cases h))
        refine W.eq (g2 := F0 m 63 ls [.ref (fa nf)]) rfl ?_
        refine lv_iload_n hx hb d_Pg_openOutward_63 rfl (lv_at hl 2 rfl) ?_
        refine lv_aload_n hx hb d_Pg_openOutward_64 rfl (lv_at hl 1 rfl) ?_
        refine gm_get (C := R_Pg) (T := F_Pg) (n := 15) hx hb htl i_Pg hown hK hP h_80 rfl 9 (by decide) (htl _ k_206) (fun _ h => h) rfl d_Pg_openOutward_65 ?_
        refine lv_aload_n hx hb d_Pg_openOutward_68 rfl (lv_at hl 1 rfl) ?_
        refine gm_get (C := R_Pg) (T := F_Pg) (n := 15) hx hb htl i_Pg hown hK hP h_80 rfl 10 (by decide) (htl _ k_207) (fun _ h => h) rfl d_Pg_openOutward_69 ?_
        refine lv_iload_n hx hb d_Pg_openOutward_72 rfl (lv_at hl 0 rfl) ?_
        refine lv_iconst (v := nI 1) hx hb d_Pg_openOutward_73 (by decide) ?_
        refine lv_aload_n hx hb d_Pg_openOutward_74 rfl (lv_at hl 1 rfl) ?_
        refine gm_get (C := R_Pg) (T := F_Pg) (n := 15) hx hb htl i_Pg hown hK hP h_80 rfl 11 (by decide) (htl _ k_208) (fun _ h => h) rfl d_Pg_openOutward_75 ?_
        refine gc_V (q := (R_Fl, F_Fl, 8)) (n := 6) [.int (nI pr0), .int (nI so), .int (nI ta), .int (nI (fl kv_12 3)), .int (nI 1), .int (nI tm)] [] hx hb hml hown hts hK hN hX hP hS (c_Fl_begin (hf_88 nf (by omega)) (by omega) (by omega)) rfl (hf_88 nf (by omega)) k_645 k_646 k_647 k_8 k_648 (by decide +kernel) ⟨by decide, by decide⟩ rfl hl.1 rfl (Nat.le_of_ble_eq_true rfl) d_Pg_openOutward_78 ⟨by decide, by decide⟩ (fun r N1 M_89 H locs hw hP hS => ?_)
        obtain ⟨rfl, hw⟩ := hw
        rcases hw with ⟨c_90, rfl⟩ | ⟨c_91, rfl⟩
        · skip
          have hP : gm_P D cls A N (gm_up (gm_up M (g + 63) (.inr (3, [.ref (g + 64), .int (nI (nf + 1))]))) (fa nf) (.inr (2, [.int (nI pr0), .int (nI so), .int (nI ta), .int (nI (fl kv_12 3)), .int (nI 1), .int (nI tm), .int (nI 1), .int (nI 0)]))) H := hP
          have h_92 := gm_pass (k := (fa nf)) (y := .inr (2, [.int (nI pr0), .int (nI so), .int (nI ta), .int (nI (fl kv_12 3)), .int (nI 1), .int (nI tm), .int (nI 1), .int (nI 0)])) h_80 (gm_ne h_80 (hf_88 nf (by omega)) (fun h => by cases h))
          have h_93 := gm_pass (k := (fa nf)) (y := .inr (2, [.int (nI pr0), .int (nI so), .int (nI ta), .int (nI (fl kv_12 3)), .int (nI 1), .int (nI tm), .int (nI 1), .int (nI 0)])) h_81 (gm_ne h_81 (hf_88 nf (by omega)) (fun h => by cases h))
          have h_94 := gm_pass (k := (fa nf)) (y := .inr (2, [.int (nI pr0), .int (nI so), .int (nI ta), .int (nI (fl kv_12 3)), .int (nI 1), .int (nI tm), .int (nI 1), .int (nI 0)])) h_82 (gm_ne h_82 (hf_88 nf (by omega)) (fun h => by cases h))
          have h_95 := gm_pass (k := (fa nf)) (y := .inr (2, [.int (nI pr0), .int (nI so), .int (nI ta), .int (nI (fl kv_12 3)), .int (nI 1), .int (nI tm), .int (nI 1), .int (nI 0)])) h_83 (gm_ne h_83 (hf_88 nf (by omega)) (fun h => by cases h))
          have h_96 := gm_pass (k := (fa nf)) (y := .inr (2, [.int (nI pr0), .int (nI so), .int (nI ta), .int (nI (fl kv_12 3)), .int (nI 1), .int (nI tm), .int (nI 1), .int (nI 0)])) h_84 (gm_ne h_84 (hf_88 nf (by omega)) (fun h => by cases h))
          have h_97 := gm_pass (k := (fa nf)) (y := .inr (2, [.int (nI pr0), .int (nI so), .int (nI ta), .int (nI (fl kv_12 3)), .int (nI 1), .int (nI tm), .int (nI 1), .int (nI 0)])) h_85 (gm_ne h_85 (hf_88 nf (by omega)) (fun h => by cases h))
          have h_98 := gm_pass (k := (fa nf)) (y := .inr (2, [.int (nI pr0), .int (nI so), .int (nI ta), .int (nI (fl kv_12 3)), .int (nI 1), .int (nI tm), .int (nI 1), .int (nI 0)])) h_86 (gm_ne h_86 (hf_88 nf (by omega)) (fun h => by cases h))
          have h_99 := gm_pass (k := (fa nf)) (y := .inr (2, [.int (nI pr0), .int (nI so), .int (nI ta), .int (nI (fl kv_12 3)), .int (nI 1), .int (nI tm), .int (nI 1), .int (nI 0)])) h_87 (gm_ne h_87 (hf_88 nf (by omega)) (fun h => by cases h))
          have h_100 := gm_up_self (gm_up M (g + 63) (.inr (3, [.ref (g + 64), .int (nI (nf + 1))]))) (fa nf) (.inr (2, [.int (nI pr0), .int (nI so), .int (nI ta), .int (nI (fl kv_12 3)), .int (nI 1), .int (nI tm), .int (nI 1), .int (nI 0)]))
          have hf_101 : ∀ fi, fi < 16 → (gm_up (gm_up M (g + 63) (.inr (3, [.ref (g + 64), .int (nI (nf + 1))]))) (fa nf) (.inr (2, [.int (nI pr0), .int (nI so), .int (nI ta), .int (nI (fl kv_12 3)), .int (nI 1), .int (nI tm), .int (nI 1), .int (nI 0)]))) (fa fi) = some (.inr (2, [.int (nI ((newF fl nf pr0 so ta (fl kv_12 3) 1 tm) fi 0)), .int (nI ((newF fl nf pr0 so ta (fl kv_12 3) 1 tm) fi 1)), .int (nI ((newF fl nf pr0 so ta (fl kv_12 3) 1 tm) fi 2)), .int (nI ((newF fl nf pr0 so ta (fl kv_12 3) 1 tm) fi 3)), .int (nI ((newF fl nf pr0 so ta (fl kv_12 3) 1 tm) fi 4)), .int (nI ((newF fl nf pr0 so ta (fl kv_12 3) 1 tm) fi 5)), .int (nI ((newF fl nf pr0 so ta (fl kv_12 3) 1 tm) fi 6)), .int (nI ((newF fl nf pr0 so ta (fl kv_12 3) 1 tm) fi 7))])) := fun fi hfi => by
            by_cases q : fi = nf
            · subst q; rw [newF_self0 c_90]; exact gm_up_self _ _ _
            · rw [newF_ne q]; exact (gm_pass (hf_88 fi hfi) (fun z => q (hA.2 fi nf hfi (by omega) z)))
          refine W.eq (g2 := F0 m 81 ls []) rfl ?_
          refine lv_aload_n hx hb d_Pg_openOutward_81 rfl (lv_at hl 1 rfl) ?_
          refine lv_iload_n hx hb d_Pg_openOutward_82 rfl (lv_at hl 0 rfl) ?_
          refine gc_V (q := (R_Pg, F_Pg, 15)) (n := 1) [.int (nI (fl kv_12 3))] [] hx hb hml hown hts hK hN hX hP hS (c_Pg_sendOut h_92 h_98 (by omega) (by omega)) rfl h_92 k_597 k_599 ks_Pg_sendOut k_1 k_600 (by decide +kernel) ⟨by decide, by decide⟩ rfl hl.1 rfl (Nat.le_of_ble_eq_true rfl) d_Pg_openOutward_83 ⟨by decide, by decide⟩ (fun r N1 M_102 H locs hw hP hS => ?_)
          obtain ⟨rfl, hw⟩ := hw
          obtain ⟨rfl, rfl⟩ := hw
          have hP : gm_P D cls A N (gm_up (gm_up (gm_up M (g + 63) (.inr (3, [.ref (g + 64), .int (nI (nf + 1))]))) (fa nf) (.inr (2, [.int (nI pr0), .int (nI so), .int (nI ta), .int (nI (fl kv_12 3)), .int (nI 1), .int (nI tm), .int (nI 1), .int (nI 0)]))) (g + 81) (.inl (ca 0, 4, .inl (iN (va_up (va_up (va_up (va_up em 0 200) 1 (fl kv_12 3)) 2 (ta / 256)) 3 (ta % 256)))))) H := hP
          have h_103 := gm_pass (k := (g + 81)) (y := .inl (ca 0, 4, .inl (iN (va_up (va_up (va_up (va_up em 0 200) 1 (fl kv_12 3)) 2 (ta / 256)) 3 (ta % 256))))) h_92 (gm_ne h_92 h_98 (fun h => by cases h))
          have h_104 := gm_pass (k := (g + 81)) (y := .inl (ca 0, 4, .inl (iN (va_up (va_up (va_up (va_up em 0 200) 1 (fl kv_12 3)) 2 (ta / 256)) 3 (ta % 256))))) h_93 (gm_ne h_93 h_98 (fun h => by cases h))
          have h_105 := gm_pass (k := (g + 81)) (y := .inl (ca 0, 4, .inl (iN (va_up (va_up (va_up (va_up em 0 200) 1 (fl kv_12 3)) 2 (ta / 256)) 3 (ta % 256))))) h_94 (by omega)
          have h_106 := gm_pass (k := (g + 81)) (y := .inl (ca 0, 4, .inl (iN (va_up (va_up (va_up (va_up em 0 200) 1 (fl kv_12 3)) 2 (ta / 256)) 3 (ta % 256))))) h_95 (by omega)
          have h_107 := gm_pass (k := (g + 81)) (y := .inl (ca 0, 4, .inl (iN (va_up (va_up (va_up (va_up em 0 200) 1 (fl kv_12 3)) 2 (ta / 256)) 3 (ta % 256))))) h_96 (by omega)
          have h_108 := gm_pass (k := (g + 81)) (y := .inl (ca 0, 4, .inl (iN (va_up (va_up (va_up (va_up em 0 200) 1 (fl kv_12 3)) 2 (ta / 256)) 3 (ta % 256))))) h_97 (gm_ne h_97 h_98 (fun h => by simp at h))
          have h_109 := gm_pass (k := (g + 81)) (y := .inl (ca 0, 4, .inl (iN (va_up (va_up (va_up (va_up em 0 200) 1 (fl kv_12 3)) 2 (ta / 256)) 3 (ta % 256))))) h_99 (gm_ne h_99 h_98 (fun h => by cases h))
          have h_110 := gm_pass (k := (g + 81)) (y := .inl (ca 0, 4, .inl (iN (va_up (va_up (va_up (va_up em 0 200) 1 (fl kv_12 3)) 2 (ta / 256)) 3 (ta % 256))))) h_100 (gm_ne h_100 h_98 (fun h => by cases h))
          have h_111 := gm_up_self (gm_up (gm_up M (g + 63) (.inr (3, [.ref (g + 64), .int (nI (nf + 1))]))) (fa nf) (.inr (2, [.int (nI pr0), .int (nI so), .int (nI ta), .int (nI (fl kv_12 3)), .int (nI 1), .int (nI tm), .int (nI 1), .int (nI 0)]))) (g + 81) (.inl (ca 0, 4, .inl (iN (va_up (va_up (va_up (va_up em 0 200) 1 (fl kv_12 3)) 2 (ta / 256)) 3 (ta % 256)))))
          have hf_112 : ∀ fi, fi < 16 → (gm_up (gm_up (gm_up M (g + 63) (.inr (3, [.ref (g + 64), .int (nI (nf + 1))]))) (fa nf) (.inr (2, [.int (nI pr0), .int (nI so), .int (nI ta), .int (nI (fl kv_12 3)), .int (nI 1), .int (nI tm), .int (nI 1), .int (nI 0)]))) (g + 81) (.inl (ca 0, 4, .inl (iN (va_up (va_up (va_up (va_up em 0 200) 1 (fl kv_12 3)) 2 (ta / 256)) 3 (ta % 256)))))) (fa fi) = some (.inr (2, [.int (nI ((newF fl nf pr0 so ta (fl kv_12 3) 1 tm) fi 0)), .int (nI ((newF fl nf pr0 so ta (fl kv_12 3) 1 tm) fi 1)), .int (nI ((newF fl nf pr0 so ta (fl kv_12 3) 1 tm) fi 2)), .int (nI ((newF fl nf pr0 so ta (fl kv_12 3) 1 tm) fi 3)), .int (nI ((newF fl nf pr0 so ta (fl kv_12 3) 1 tm) fi 4)), .int (nI ((newF fl nf pr0 so ta (fl kv_12 3) 1 tm) fi 5)), .int (nI ((newF fl nf pr0 so ta (fl kv_12 3) 1 tm) fi 6)), .int (nI ((newF fl nf pr0 so ta (fl kv_12 3) 1 tm) fi 7))])) := fun fi hfi => gm_pass (k := (g + 81)) (y := .inl (ca 0, 4, .inl (iN (va_up (va_up (va_up (va_up em 0 200) 1 (fl kv_12 3)) 2 (ta / 256)) 3 (ta % 256))))) (hf_101 fi hfi) (gm_ne (hf_101 fi hfi) h_98 (fun h => by cases h))
          refine W.eq (g2 := F0 m 86 ls [.int (nI 0)]) rfl ?_
          exact gc_iret hx hb hr hlk hP hS d_Pg_openOutward_86 ⟨rfl, nI 0, _, _, _, (by unfold openO; rw [if_neg (by omega), if_neg (by omega), hm_76]; rfl), (by omega), okF_new hF (by omega) hso hta (by omega) (by decide) (by omega), h_109, h_111, hf_112, (fun z q0 q1 qr => (gm_up_ne _ _ q1).trans ((gm_up_ne _ _ (fun q => qr (by rw [q]; exact hA.1 nf (by omega)))).trans ((gm_up_ne _ _ q0).trans (rfl)))), rfl⟩
        · skip
          have hP : gm_P D cls A N (gm_up (gm_up M (g + 63) (.inr (3, [.ref (g + 64), .int (nI (nf + 1))]))) (fa nf) (.inr (2, [.int (nI pr0), .int (nI so), .int (nI ta), .int (nI (fl kv_12 3)), .int (nI 6), .int (nI tm), .int (nI 1), .int (nI 0)]))) H := hP
          have h_113 := gm_pass (k := (fa nf)) (y := .inr (2, [.int (nI pr0), .int (nI so), .int (nI ta), .int (nI (fl kv_12 3)), .int (nI 6), .int (nI tm), .int (nI 1), .int (nI 0)])) h_80 (gm_ne h_80 (hf_88 nf (by omega)) (fun h => by cases h))
          have h_114 := gm_pass (k := (fa nf)) (y := .inr (2, [.int (nI pr0), .int (nI so), .int (nI ta), .int (nI (fl kv_12 3)), .int (nI 6), .int (nI tm), .int (nI 1), .int (nI 0)])) h_81 (gm_ne h_81 (hf_88 nf (by omega)) (fun h => by cases h))
          have h_115 := gm_pass (k := (fa nf)) (y := .inr (2, [.int (nI pr0), .int (nI so), .int (nI ta), .int (nI (fl kv_12 3)), .int (nI 6), .int (nI tm), .int (nI 1), .int (nI 0)])) h_82 (gm_ne h_82 (hf_88 nf (by omega)) (fun h => by cases h))
          have h_116 := gm_pass (k := (fa nf)) (y := .inr (2, [.int (nI pr0), .int (nI so), .int (nI ta), .int (nI (fl kv_12 3)), .int (nI 6), .int (nI tm), .int (nI 1), .int (nI 0)])) h_83 (gm_ne h_83 (hf_88 nf (by omega)) (fun h => by cases h))
          have h_117 := gm_pass (k := (fa nf)) (y := .inr (2, [.int (nI pr0), .int (nI so), .int (nI ta), .int (nI (fl kv_12 3)), .int (nI 6), .int (nI tm), .int (nI 1), .int (nI 0)])) h_84 (gm_ne h_84 (hf_88 nf (by omega)) (fun h => by cases h))
          have h_118 := gm_pass (k := (fa nf)) (y := .inr (2, [.int (nI pr0), .int (nI so), .int (nI ta), .int (nI (fl kv_12 3)), .int (nI 6), .int (nI tm), .int (nI 1), .int (nI 0)])) h_85 (gm_ne h_85 (hf_88 nf (by omega)) (fun h => by cases h))
          have h_119 := gm_pass (k := (fa nf)) (y := .inr (2, [.int (nI pr0), .int (nI so), .int (nI ta), .int (nI (fl kv_12 3)), .int (nI 6), .int (nI tm), .int (nI 1), .int (nI 0)])) h_86 (gm_ne h_86 (hf_88 nf (by omega)) (fun h => by cases h))
          have h_120 := gm_pass (k := (fa nf)) (y := .inr (2, [.int (nI pr0), .int (nI so), .int (nI ta), .int (nI (fl kv_12 3)), .int (nI 6), .int (nI tm), .int (nI 1), .int (nI 0)])) h_87 (gm_ne h_87 (hf_88 nf (by omega)) (fun h => by cases h))
          have h_121 := gm_up_self (gm_up M (g + 63) (.inr (3, [.ref (g + 64), .int (nI (nf + 1))]))) (fa nf) (.inr (2, [.int (nI pr0), .int (nI so), .int (nI ta), .int (nI (fl kv_12 3)), .int (nI 6), .int (nI tm), .int (nI 1), .int (nI 0)]))
          have hf_122 : ∀ fi, fi < 16 → (gm_up (gm_up M (g + 63) (.inr (3, [.ref (g + 64), .int (nI (nf + 1))]))) (fa nf) (.inr (2, [.int (nI pr0), .int (nI so), .int (nI ta), .int (nI (fl kv_12 3)), .int (nI 6), .int (nI tm), .int (nI 1), .int (nI 0)]))) (fa fi) = some (.inr (2, [.int (nI ((newF fl nf pr0 so ta (fl kv_12 3) 1 tm) fi 0)), .int (nI ((newF fl nf pr0 so ta (fl kv_12 3) 1 tm) fi 1)), .int (nI ((newF fl nf pr0 so ta (fl kv_12 3) 1 tm) fi 2)), .int (nI ((newF fl nf pr0 so ta (fl kv_12 3) 1 tm) fi 3)), .int (nI ((newF fl nf pr0 so ta (fl kv_12 3) 1 tm) fi 4)), .int (nI ((newF fl nf pr0 so ta (fl kv_12 3) 1 tm) fi 5)), .int (nI ((newF fl nf pr0 so ta (fl kv_12 3) 1 tm) fi 6)), .int (nI ((newF fl nf pr0 so ta (fl kv_12 3) 1 tm) fi 7))])) := fun fi hfi => by
            by_cases q : fi = nf
            · subst q; rw [newF_self6 c_91]; exact gm_up_self _ _ _
            · rw [newF_ne q]; exact (gm_pass (hf_88 fi hfi) (fun z => q (hA.2 fi nf hfi (by omega) z)))
          refine W.eq (g2 := F0 m 81 ls []) rfl ?_
          refine lv_aload_n hx hb d_Pg_openOutward_81 rfl (lv_at hl 1 rfl) ?_
          refine lv_iload_n hx hb d_Pg_openOutward_82 rfl (lv_at hl 0 rfl) ?_
          refine gc_V (q := (R_Pg, F_Pg, 15)) (n := 1) [.int (nI (fl kv_12 3))] [] hx hb hml hown hts hK hN hX hP hS (c_Pg_sendOut h_113 h_119 (by omega) (by omega)) rfl h_113 k_597 k_599 ks_Pg_sendOut k_1 k_600 (by decide +kernel) ⟨by decide, by decide⟩ rfl hl.1 rfl (Nat.le_of_ble_eq_true rfl) d_Pg_openOutward_83 ⟨by decide, by decide⟩ (fun r N1 M_123 H locs hw hP hS => ?_)
          obtain ⟨rfl, hw⟩ := hw
          obtain ⟨rfl, rfl⟩ := hw
          have hP : gm_P D cls A N (gm_up (gm_up (gm_up M (g + 63) (.inr (3, [.ref (g + 64), .int (nI (nf + 1))]))) (fa nf) (.inr (2, [.int (nI pr0), .int (nI so), .int (nI ta), .int (nI (fl kv_12 3)), .int (nI 6), .int (nI tm), .int (nI 1), .int (nI 0)]))) (g + 81) (.inl (ca 0, 4, .inl (iN (va_up (va_up (va_up (va_up em 0 200) 1 (fl kv_12 3)) 2 (ta / 256)) 3 (ta % 256)))))) H := hP
          have h_124 := gm_pass (k := (g + 81)) (y := .inl (ca 0, 4, .inl (iN (va_up (va_up (va_up (va_up em 0 200) 1 (fl kv_12 3)) 2 (ta / 256)) 3 (ta % 256))))) h_113 (gm_ne h_113 h_119 (fun h => by cases h))
          have h_125 := gm_pass (k := (g + 81)) (y := .inl (ca 0, 4, .inl (iN (va_up (va_up (va_up (va_up em 0 200) 1 (fl kv_12 3)) 2 (ta / 256)) 3 (ta % 256))))) h_114 (gm_ne h_114 h_119 (fun h => by cases h))
          have h_126 := gm_pass (k := (g + 81)) (y := .inl (ca 0, 4, .inl (iN (va_up (va_up (va_up (va_up em 0 200) 1 (fl kv_12 3)) 2 (ta / 256)) 3 (ta % 256))))) h_115 (by omega)
          have h_127 := gm_pass (k := (g + 81)) (y := .inl (ca 0, 4, .inl (iN (va_up (va_up (va_up (va_up em 0 200) 1 (fl kv_12 3)) 2 (ta / 256)) 3 (ta % 256))))) h_116 (by omega)
          have h_128 := gm_pass (k := (g + 81)) (y := .inl (ca 0, 4, .inl (iN (va_up (va_up (va_up (va_up em 0 200) 1 (fl kv_12 3)) 2 (ta / 256)) 3 (ta % 256))))) h_117 (by omega)
          have h_129 := gm_pass (k := (g + 81)) (y := .inl (ca 0, 4, .inl (iN (va_up (va_up (va_up (va_up em 0 200) 1 (fl kv_12 3)) 2 (ta / 256)) 3 (ta % 256))))) h_118 (gm_ne h_118 h_119 (fun h => by simp at h))
          have h_130 := gm_pass (k := (g + 81)) (y := .inl (ca 0, 4, .inl (iN (va_up (va_up (va_up (va_up em 0 200) 1 (fl kv_12 3)) 2 (ta / 256)) 3 (ta % 256))))) h_120 (gm_ne h_120 h_119 (fun h => by cases h))
          have h_131 := gm_pass (k := (g + 81)) (y := .inl (ca 0, 4, .inl (iN (va_up (va_up (va_up (va_up em 0 200) 1 (fl kv_12 3)) 2 (ta / 256)) 3 (ta % 256))))) h_121 (gm_ne h_121 h_119 (fun h => by cases h))
          have h_132 := gm_up_self (gm_up (gm_up M (g + 63) (.inr (3, [.ref (g + 64), .int (nI (nf + 1))]))) (fa nf) (.inr (2, [.int (nI pr0), .int (nI so), .int (nI ta), .int (nI (fl kv_12 3)), .int (nI 6), .int (nI tm), .int (nI 1), .int (nI 0)]))) (g + 81) (.inl (ca 0, 4, .inl (iN (va_up (va_up (va_up (va_up em 0 200) 1 (fl kv_12 3)) 2 (ta / 256)) 3 (ta % 256)))))
          have hf_133 : ∀ fi, fi < 16 → (gm_up (gm_up (gm_up M (g + 63) (.inr (3, [.ref (g + 64), .int (nI (nf + 1))]))) (fa nf) (.inr (2, [.int (nI pr0), .int (nI so), .int (nI ta), .int (nI (fl kv_12 3)), .int (nI 6), .int (nI tm), .int (nI 1), .int (nI 0)]))) (g + 81) (.inl (ca 0, 4, .inl (iN (va_up (va_up (va_up (va_up em 0 200) 1 (fl kv_12 3)) 2 (ta / 256)) 3 (ta % 256)))))) (fa fi) = some (.inr (2, [.int (nI ((newF fl nf pr0 so ta (fl kv_12 3) 1 tm) fi 0)), .int (nI ((newF fl nf pr0 so ta (fl kv_12 3) 1 tm) fi 1)), .int (nI ((newF fl nf pr0 so ta (fl kv_12 3) 1 tm) fi 2)), .int (nI ((newF fl nf pr0 so ta (fl kv_12 3) 1 tm) fi 3)), .int (nI ((newF fl nf pr0 so ta (fl kv_12 3) 1 tm) fi 4)), .int (nI ((newF fl nf pr0 so ta (fl kv_12 3) 1 tm) fi 5)), .int (nI ((newF fl nf pr0 so ta (fl kv_12 3) 1 tm) fi 6)), .int (nI ((newF fl nf pr0 so ta (fl kv_12 3) 1 tm) fi 7))])) := fun fi hfi => gm_pass (k := (g + 81)) (y := .inl (ca 0, 4, .inl (iN (va_up (va_up (va_up (va_up em 0 200) 1 (fl kv_12 3)) 2 (ta / 256)) 3 (ta % 256))))) (hf_122 fi hfi) (gm_ne (hf_122 fi hfi) h_119 (fun h => by cases h))
          refine W.eq (g2 := F0 m 86 ls [.int (nI 0)]) rfl ?_
          exact gc_iret hx hb hr hlk hP hS d_Pg_openOutward_86 ⟨rfl, nI 0, _, _, _, (by unfold openO; rw [if_neg (by omega), if_neg (by omega), hm_76]; rfl), (by omega), okF_new hF (by omega) hso hta (by omega) (by decide) (by omega), h_130, h_132, hf_133, (fun z q0 q1 qr => (gm_up_ne _ _ q1).trans ((gm_up_ne _ _ (fun q => qr (by rw [q]; exact hA.1 nf (by omega)))).trans ((gm_up_ne _ _ q0).trans (rfl)))), rfl⟩
      · skip
        refine W.eq (g2 := F0 m 33 ls [.int (-1)]) rfl ?_
        have hm_134 := mpP_3 (po := po) (pi := pi) c_17 c_18
        refine lv_istore_n (lv' := [(3, .int (-1)), (0, .ref g), (1, .int (nI pr0)), (2, .int (nI f0))]) hx hb d_Pg_openOutward_33 rfl hl (by decide) rfl (fun ls hl => ?_)
        refine lv_iload_n hx hb d_Pg_openOutward_34 rfl (lv_at hl 0 rfl) ?_
        refine lv_iconst (v := (-1)) hx hb d_Pg_openOutward_35 (by decide) ?_
        refine lv_icmp_ne (tgt := 48) hx hb d_Pg_openOutward_36 (by decide) (fun q => absurd q (by decide)) (fun _ => ?_)
        refine lv_aload_n hx hb d_Pg_openOutward_39 rfl (lv_at hl 1 rfl) ?_
        refine gm_get (C := R_Pg) (T := F_Pg) (n := 15) hx hb htl i_Pg hown hK hP eg rfl 5 (by decide) (htl _ k_202) (fun _ h => h) rfl d_Pg_openOutward_40 ?_
        refine lv_iload_n hx hb d_Pg_openOutward_43 rfl (lv_at hl 2 rfl) ?_
        refine gc_V (q := (R_Ft, F_Ft, 2)) (n := 1) [.int (nI pr0)] [] hx hb hml hown hts hK hN hX hP hS (c_Ft_freePort ef efa hf (by omega) hA hF (by omega)) rfl ef k_637 k_638 k_639 k_7 k_640 (by decide +kernel) ⟨by decide, by decide⟩ rfl hl.1 rfl (Nat.le_of_ble_eq_true rfl) d_Pg_openOutward_44 ⟨by decide, by decide⟩ (fun r N1 M_135 H locs hw hP hS => ?_)
        obtain ⟨rfl, hw⟩ := hw
        rcases hw with ⟨kv_136, c_137, c_138, c_139, rfl, rfl⟩ | ⟨c_140, rfl, rfl⟩
        · skip
          refine W.eq (g2 := F0 m 47 ls [.int (nI kv_136)]) rfl ?_
          have hm_141 := freeF_some c_137 c_138 c_139
          refine lv_istore_n (lv' := [(3, .int (nI kv_136)), (0, .ref g), (1, .int (nI pr0)), (2, .int (nI f0))]) hx hb d_Pg_openOutward_47 rfl hl (by decide) rfl (fun ls hl => ?_)
          refine lv_iload_n hx hb d_Pg_openOutward_48 rfl (lv_at hl 0 rfl) ?_
          refine lv_iconst (v := (-1)) hx hb d_Pg_openOutward_49 (by decide) ?_
          refine lv_icmp_ne (tgt := 56) hx hb d_Pg_openOutward_50 (by decide) (fun _ => ?_) (fun q => absurd q (nI_nm1 (by omega)))
          refine lv_aload_n hx hb d_Pg_openOutward_56 rfl (lv_at hl 1 rfl) ?_
          refine gm_get (C := R_Pg) (T := F_Pg) (n := 15) hx hb htl i_Pg hown hK hP eg rfl 5 (by decide) (htl _ k_202) (fun _ h => h) rfl d_Pg_openOutward_57 ?_
          refine gc_V (q := (R_Ft, F_Ft, 2)) (n := 0) [] [] hx hb hml hown hts hK hN hX hP hS (c_Ft_addSpare ef efa hf (by omega) hA hF (by omega)) rfl ef k_641 k_642 k_643 k_7 k_644 (by decide +kernel) ⟨by decide, by decide⟩ rfl hl.1 rfl (Nat.le_of_ble_eq_true rfl) d_Pg_openOutward_60 ⟨by decide, by decide⟩ (fun r N1 M_142 H locs hw hP hS => ?_)
          obtain ⟨rfl, hw⟩ := hw
          obtain ⟨rfl, rfl⟩ := hw
          have hP : gm_P D cls A N (gm_up M (g + 63) (.inr (3, [.ref (g + 64), .int (nI (nf + 1))]))) H := hP
          have h_143 := gm_pass (k := (g + 63)) (y := .inr (3, [.ref (g + 64), .int (nI (nf + 1))])) eg (gm_ne eg ef (fun h => by cases h))
          have h_144 := gm_pass (k := (g + 63)) (y := .inr (3, [.ref (g + 64), .int (nI (nf + 1))])) ex0 (gm_ne ex0 ef (fun h => by cases h))
          have h_145 := gm_pass (k := (g + 63)) (y := .inr (3, [.ref (g + 64), .int (nI (nf + 1))])) ex1 (gm_ne ex1 ef (fun h => by cases h))
          have h_146 := gm_pass (k := (g + 63)) (y := .inr (3, [.ref (g + 64), .int (nI (nf + 1))])) ex2 (gm_ne ex2 ef (fun h => by cases h))
          have h_147 := gm_pass (k := (g + 63)) (y := .inr (3, [.ref (g + 64), .int (nI (nf + 1))])) ex3 (gm_ne ex3 ef (fun h => by cases h))
          have h_148 := gm_pass (k := (g + 63)) (y := .inr (3, [.ref (g + 64), .int (nI (nf + 1))])) efa (gm_ne efa ef (fun h => by cases h))
          have h_149 := gm_pass (k := (g + 63)) (y := .inr (3, [.ref (g + 64), .int (nI (nf + 1))])) eem (gm_ne eem ef (fun h => by cases h))
          have h_150 := gm_up_self M (g + 63) (.inr (3, [.ref (g + 64), .int (nI (nf + 1))]))
          have hf_151 : ∀ fi, fi < 16 → (gm_up M (g + 63) (.inr (3, [.ref (g + 64), .int (nI (nf + 1))]))) (fa fi) = some (.inr (2, [.int (nI (fl fi 0)), .int (nI (fl fi 1)), .int (nI (fl fi 2)), .int (nI (fl fi 3)), .int (nI (fl fi 4)), .int (nI (fl fi 5)), .int (nI (fl fi 6)), .int (nI (fl fi 7))])) := fun fi hfi => gm_pass (k := (g + 63)) (y := .inr (3, [.ref (g + 64), .int (nI (nf + 1))])) (hf fi hfi) (gm_ne (hf fi hfi) ef (fun h => by cases h))
          refine W.eq (g2 := F0 m 63 ls [.ref (fa nf)]) rfl ?_
          refine lv_iload_n hx hb d_Pg_openOutward_63 rfl (lv_at hl 2 rfl) ?_
          refine lv_aload_n hx hb d_Pg_openOutward_64 rfl (lv_at hl 1 rfl) ?_
          refine gm_get (C := R_Pg) (T := F_Pg) (n := 15) hx hb htl i_Pg hown hK hP h_143 rfl 9 (by decide) (htl _ k_206) (fun _ h => h) rfl d_Pg_openOutward_65 ?_
          refine lv_aload_n hx hb d_Pg_openOutward_68 rfl (lv_at hl 1 rfl) ?_
          refine gm_get (C := R_Pg) (T := F_Pg) (n := 15) hx hb htl i_Pg hown hK hP h_143 rfl 10 (by decide) (htl _ k_207) (fun _ h => h) rfl d_Pg_openOutward_69 ?_
          refine lv_iload_n hx hb d_Pg_openOutward_72 rfl (lv_at hl 0 rfl) ?_
          refine lv_iconst (v := nI 1) hx hb d_Pg_openOutward_73 (by decide) ?_
          refine lv_aload_n hx hb d_Pg_openOutward_74 rfl (lv_at hl 1 rfl) ?_
          refine gm_get (C := R_Pg) (T := F_Pg) (n := 15) hx hb htl i_Pg hown hK hP h_143 rfl 11 (by decide) (htl _ k_208) (fun _ h => h) rfl d_Pg_openOutward_75 ?_
          refine gc_V (q := (R_Fl, F_Fl, 8)) (n := 6) [.int (nI pr0), .int (nI so), .int (nI ta), .int (nI kv_136), .int (nI 1), .int (nI tm)] [] hx hb hml hown hts hK hN hX hP hS (c_Fl_begin (hf_151 nf (by omega)) (by omega) (by omega)) rfl (hf_151 nf (by omega)) k_645 k_646 k_647 k_8 k_648 (by decide +kernel) ⟨by decide, by decide⟩ rfl hl.1 rfl (Nat.le_of_ble_eq_true rfl) d_Pg_openOutward_78 ⟨by decide, by decide⟩ (fun r N1 M_152 H locs hw hP hS => ?_)
          obtain ⟨rfl, hw⟩ := hw
          rcases hw with ⟨c_153, rfl⟩ | ⟨c_154, rfl⟩
          · skip
            have hP : gm_P D cls A N (gm_up (gm_up M (g + 63) (.inr (3, [.ref (g + 64), .int (nI (nf + 1))]))) (fa nf) (.inr (2, [.int (nI pr0), .int (nI so), .int (nI ta), .int (nI kv_136), .int (nI 1), .int (nI tm), .int (nI 1), .int (nI 0)]))) H := hP
            have h_155 := gm_pass (k := (fa nf)) (y := .inr (2, [.int (nI pr0), .int (nI so), .int (nI ta), .int (nI kv_136), .int (nI 1), .int (nI tm), .int (nI 1), .int (nI 0)])) h_143 (gm_ne h_143 (hf_151 nf (by omega)) (fun h => by cases h))
            have h_156 := gm_pass (k := (fa nf)) (y := .inr (2, [.int (nI pr0), .int (nI so), .int (nI ta), .int (nI kv_136), .int (nI 1), .int (nI tm), .int (nI 1), .int (nI 0)])) h_144 (gm_ne h_144 (hf_151 nf (by omega)) (fun h => by cases h))
            have h_157 := gm_pass (k := (fa nf)) (y := .inr (2, [.int (nI pr0), .int (nI so), .int (nI ta), .int (nI kv_136), .int (nI 1), .int (nI tm), .int (nI 1), .int (nI 0)])) h_145 (gm_ne h_145 (hf_151 nf (by omega)) (fun h => by cases h))
            have h_158 := gm_pass (k := (fa nf)) (y := .inr (2, [.int (nI pr0), .int (nI so), .int (nI ta), .int (nI kv_136), .int (nI 1), .int (nI tm), .int (nI 1), .int (nI 0)])) h_146 (gm_ne h_146 (hf_151 nf (by omega)) (fun h => by cases h))
            have h_159 := gm_pass (k := (fa nf)) (y := .inr (2, [.int (nI pr0), .int (nI so), .int (nI ta), .int (nI kv_136), .int (nI 1), .int (nI tm), .int (nI 1), .int (nI 0)])) h_147 (gm_ne h_147 (hf_151 nf (by omega)) (fun h => by cases h))
            have h_160 := gm_pass (k := (fa nf)) (y := .inr (2, [.int (nI pr0), .int (nI so), .int (nI ta), .int (nI kv_136), .int (nI 1), .int (nI tm), .int (nI 1), .int (nI 0)])) h_148 (gm_ne h_148 (hf_151 nf (by omega)) (fun h => by cases h))
            have h_161 := gm_pass (k := (fa nf)) (y := .inr (2, [.int (nI pr0), .int (nI so), .int (nI ta), .int (nI kv_136), .int (nI 1), .int (nI tm), .int (nI 1), .int (nI 0)])) h_149 (gm_ne h_149 (hf_151 nf (by omega)) (fun h => by cases h))
            have h_162 := gm_pass (k := (fa nf)) (y := .inr (2, [.int (nI pr0), .int (nI so), .int (nI ta), .int (nI kv_136), .int (nI 1), .int (nI tm), .int (nI 1), .int (nI 0)])) h_150 (gm_ne h_150 (hf_151 nf (by omega)) (fun h => by cases h))
            have h_163 := gm_up_self (gm_up M (g + 63) (.inr (3, [.ref (g + 64), .int (nI (nf + 1))]))) (fa nf) (.inr (2, [.int (nI pr0), .int (nI so), .int (nI ta), .int (nI kv_136), .int (nI 1), .int (nI tm), .int (nI 1), .int (nI 0)]))
            have hf_164 : ∀ fi, fi < 16 → (gm_up (gm_up M (g + 63) (.inr (3, [.ref (g + 64), .int (nI (nf + 1))]))) (fa nf) (.inr (2, [.int (nI pr0), .int (nI so), .int (nI ta), .int (nI kv_136), .int (nI 1), .int (nI tm), .int (nI 1), .int (nI 0)]))) (fa fi) = some (.inr (2, [.int (nI ((newF fl nf pr0 so ta kv_136 1 tm) fi 0)), .int (nI ((newF fl nf pr0 so ta kv_136 1 tm) fi 1)), .int (nI ((newF fl nf pr0 so ta kv_136 1 tm) fi 2)), .int (nI ((newF fl nf pr0 so ta kv_136 1 tm) fi 3)), .int (nI ((newF fl nf pr0 so ta kv_136 1 tm) fi 4)), .int (nI ((newF fl nf pr0 so ta kv_136 1 tm) fi 5)), .int (nI ((newF fl nf pr0 so ta kv_136 1 tm) fi 6)), .int (nI ((newF fl nf pr0 so ta kv_136 1 tm) fi 7))])) := fun fi hfi => by
              by_cases q : fi = nf
              · subst q; rw [newF_self0 c_153]; exact gm_up_self _ _ _
              · rw [newF_ne q]; exact (gm_pass (hf_151 fi hfi) (fun z => q (hA.2 fi nf hfi (by omega) z)))
            refine W.eq (g2 := F0 m 81 ls []) rfl ?_
            refine lv_aload_n hx hb d_Pg_openOutward_81 rfl (lv_at hl 1 rfl) ?_
            refine lv_iload_n hx hb d_Pg_openOutward_82 rfl (lv_at hl 0 rfl) ?_
            refine gc_V (q := (R_Pg, F_Pg, 15)) (n := 1) [.int (nI kv_136)] [] hx hb hml hown hts hK hN hX hP hS (c_Pg_sendOut h_155 h_161 (by omega) (by omega)) rfl h_155 k_597 k_599 ks_Pg_sendOut k_1 k_600 (by decide +kernel) ⟨by decide, by decide⟩ rfl hl.1 rfl (Nat.le_of_ble_eq_true rfl) d_Pg_openOutward_83 ⟨by decide, by decide⟩ (fun r N1 M_165 H locs hw hP hS => ?_)
            obtain ⟨rfl, hw⟩ := hw
            obtain ⟨rfl, rfl⟩ := hw
            have hP : gm_P D cls A N (gm_up (gm_up (gm_up M (g + 63) (.inr (3, [.ref (g + 64), .int (nI (nf + 1))]))) (fa nf) (.inr (2, [.int (nI pr0), .int (nI so), .int (nI ta), .int (nI kv_136), .int (nI 1), .int (nI tm), .int (nI 1), .int (nI 0)]))) (g + 81) (.inl (ca 0, 4, .inl (iN (va_up (va_up (va_up (va_up em 0 200) 1 kv_136) 2 (ta / 256)) 3 (ta % 256)))))) H := hP
            have h_166 := gm_pass (k := (g + 81)) (y := .inl (ca 0, 4, .inl (iN (va_up (va_up (va_up (va_up em 0 200) 1 kv_136) 2 (ta / 256)) 3 (ta % 256))))) h_155 (gm_ne h_155 h_161 (fun h => by cases h))
            have h_167 := gm_pass (k := (g + 81)) (y := .inl (ca 0, 4, .inl (iN (va_up (va_up (va_up (va_up em 0 200) 1 kv_136) 2 (ta / 256)) 3 (ta % 256))))) h_156 (gm_ne h_156 h_161 (fun h => by cases h))
            have h_168 := gm_pass (k := (g + 81)) (y := .inl (ca 0, 4, .inl (iN (va_up (va_up (va_up (va_up em 0 200) 1 kv_136) 2 (ta / 256)) 3 (ta % 256))))) h_157 (by omega)
            have h_169 := gm_pass (k := (g + 81)) (y := .inl (ca 0, 4, .inl (iN (va_up (va_up (va_up (va_up em 0 200) 1 kv_136) 2 (ta / 256)) 3 (ta % 256))))) h_158 (by omega)
            have h_170 := gm_pass (k := (g + 81)) (y := .inl (ca 0, 4, .inl (iN (va_up (va_up (va_up (va_up em 0 200) 1 kv_136) 2 (ta / 256)) 3 (ta % 256))))) h_159 (by omega)
            have h_171 := gm_pass (k := (g + 81)) (y := .inl (ca 0, 4, .inl (iN (va_up (va_up (va_up (va_up em 0 200) 1 kv_136) 2 (ta / 256)) 3 (ta % 256))))) h_160 (gm_ne h_160 h_161 (fun h => by simp at h))
            have h_172 := gm_pass (k := (g + 81)) (y := .inl (ca 0, 4, .inl (iN (va_up (va_up (va_up (va_up em 0 200) 1 kv_136) 2 (ta / 256)) 3 (ta % 256))))) h_162 (gm_ne h_162 h_161 (fun h => by cases h))
            have h_173 := gm_pass (k := (g + 81)) (y := .inl (ca 0, 4, .inl (iN (va_up (va_up (va_up (va_up em 0 200) 1 kv_136) 2 (ta / 256)) 3 (ta % 256))))) h_163 (gm_ne h_163 h_161 (fun h => by cases h))
            have h_174 := gm_up_self (gm_up (gm_up M (g + 63) (.inr (3, [.ref (g + 64), .int (nI (nf + 1))]))) (fa nf) (.inr (2, [.int (nI pr0), .int (nI so), .int (nI ta), .int (nI kv_136), .int (nI 1), .int (nI tm), .int (nI 1), .int (nI 0)]))) (g + 81) (.inl (ca 0, 4, .inl (iN (va_up (va_up (va_up (va_up em 0 200) 1 kv_136) 2 (ta / 256)) 3 (ta % 256)))))
            have hf_175 : ∀ fi, fi < 16 → (gm_up (gm_up (gm_up M (g + 63) (.inr (3, [.ref (g + 64), .int (nI (nf + 1))]))) (fa nf) (.inr (2, [.int (nI pr0), .int (nI so), .int (nI ta), .int (nI kv_136), .int (nI 1), .int (nI tm), .int (nI 1), .int (nI 0)]))) (g + 81) (.inl (ca 0, 4, .inl (iN (va_up (va_up (va_up (va_up em 0 200) 1 kv_136) 2 (ta / 256)) 3 (ta % 256)))))) (fa fi) = some (.inr (2, [.int (nI ((newF fl nf pr0 so ta kv_136 1 tm) fi 0)), .int (nI ((newF fl nf pr0 so ta kv_136 1 tm) fi 1)), .int (nI ((newF fl nf pr0 so ta kv_136 1 tm) fi 2)), .int (nI ((newF fl nf pr0 so ta kv_136 1 tm) fi 3)), .int (nI ((newF fl nf pr0 so ta kv_136 1 tm) fi 4)), .int (nI ((newF fl nf pr0 so ta kv_136 1 tm) fi 5)), .int (nI ((newF fl nf pr0 so ta kv_136 1 tm) fi 6)), .int (nI ((newF fl nf pr0 so ta kv_136 1 tm) fi 7))])) := fun fi hfi => gm_pass (k := (g + 81)) (y := .inl (ca 0, 4, .inl (iN (va_up (va_up (va_up (va_up em 0 200) 1 kv_136) 2 (ta / 256)) 3 (ta % 256))))) (hf_164 fi hfi) (gm_ne (hf_164 fi hfi) h_161 (fun h => by cases h))
            refine W.eq (g2 := F0 m 86 ls [.int (nI 0)]) rfl ?_
            exact gc_iret hx hb hr hlk hP hS d_Pg_openOutward_86 ⟨rfl, nI 0, _, _, _, (by unfold openO; rw [if_neg (by omega), if_neg (by omega), hm_134, hm_141]; rfl), (by omega), okF_new hF (by omega) hso hta (by omega) (by decide) (by omega), h_172, h_174, hf_175, (fun z q0 q1 qr => (gm_up_ne _ _ q1).trans ((gm_up_ne _ _ (fun q => qr (by rw [q]; exact hA.1 nf (by omega)))).trans ((gm_up_ne _ _ q0).trans (rfl)))), rfl⟩
          · skip
            have hP : gm_P D cls A N (gm_up (gm_up M (g + 63) (.inr (3, [.ref (g + 64), .int (nI (nf + 1))]))) (fa nf) (.inr (2, [.int (nI pr0), .int (nI so), .int (nI ta), .int (nI kv_136), .int (nI 6), .int (nI tm), .int (nI 1), .int (nI 0)]))) H := hP
            have h_176 := gm_pass (k := (fa nf)) (y := .inr (2, [.int (nI pr0), .int (nI so), .int (nI ta), .int (nI kv_136), .int (nI 6), .int (nI tm), .int (nI 1), .int (nI 0)])) h_143 (gm_ne h_143 (hf_151 nf (by omega)) (fun h => by cases h))
            have h_177 := gm_pass (k := (fa nf)) (y := .inr (2, [.int (nI pr0), .int (nI so), .int (nI ta), .int (nI kv_136), .int (nI 6), .int (nI tm), .int (nI 1), .int (nI 0)])) h_144 (gm_ne h_144 (hf_151 nf (by omega)) (fun h => by cases h))
            have h_178 := gm_pass (k := (fa nf)) (y := .inr (2, [.int (nI pr0), .int (nI so), .int (nI ta), .int (nI kv_136), .int (nI 6), .int (nI tm), .int (nI 1), .int (nI 0)])) h_145 (gm_ne h_145 (hf_151 nf (by omega)) (fun h => by cases h))
            have h_179 := gm_pass (k := (fa nf)) (y := .inr (2, [.int (nI pr0), .int (nI so), .int (nI ta), .int (nI kv_136), .int (nI 6), .int (nI tm), .int (nI 1), .int (nI 0)])) h_146 (gm_ne h_146 (hf_151 nf (by omega)) (fun h => by cases h))
            have h_180 := gm_pass (k := (fa nf)) (y := .inr (2, [.int (nI pr0), .int (nI so), .int (nI ta), .int (nI kv_136), .int (nI 6), .int (nI tm), .int (nI 1), .int (nI 0)])) h_147 (gm_ne h_147 (hf_151 nf (by omega)) (fun h => by cases h))
            have h_181 := gm_pass (k := (fa nf)) (y := .inr (2, [.int (nI pr0), .int (nI so), .int (nI ta), .int (nI kv_136), .int (nI 6), .int (nI tm), .int (nI 1), .int (nI 0)])) h_148 (gm_ne h_148 (hf_151 nf (by omega)) (fun h => by cases h))
            have h_182 := gm_pass (k := (fa nf)) (y := .inr (2, [.int (nI pr0), .int (nI so), .int (nI ta), .int (nI kv_136), .int (nI 6), .int (nI tm), .int (nI 1), .int (nI 0)])) h_149 (gm_ne h_149 (hf_151 nf (by omega)) (fun h => by cases h))
            have h_183 := gm_pass (k := (fa nf)) (y := .inr (2, [.int (nI pr0), .int (nI so), .int (nI ta), .int (nI kv_136), .int (nI 6), .int (nI tm), .int (nI 1), .int (nI 0)])) h_150 (gm_ne h_150 (hf_151 nf (by omega)) (fun h => by cases h))
            have h_184 := gm_up_self (gm_up M (g + 63) (.inr (3, [.ref (g + 64), .int (nI (nf + 1))]))) (fa nf) (.inr (2, [.int (nI pr0), .int (nI so), .int (nI ta), .int (nI kv_136), .int (nI 6), .int (nI tm), .int (nI 1), .int (nI 0)]))
            have hf_185 : ∀ fi, fi < 16 → (gm_up (gm_up M (g + 63) (.inr (3, [.ref (g + 64), .int (nI (nf + 1))]))) (fa nf) (.inr (2, [.int (nI pr0), .int (nI so), .int (nI ta), .int (nI kv_136), .int (nI 6), .int (nI tm), .int (nI 1), .int (nI 0)]))) (fa fi) = some (.inr (2, [.int (nI ((newF fl nf pr0 so ta kv_136 1 tm) fi 0)), .int (nI ((newF fl nf pr0 so ta kv_136 1 tm) fi 1)), .int (nI ((newF fl nf pr0 so ta kv_136 1 tm) fi 2)), .int (nI ((newF fl nf pr0 so ta kv_136 1 tm) fi 3)), .int (nI ((newF fl nf pr0 so ta kv_136 1 tm) fi 4)), .int (nI ((newF fl nf pr0 so ta kv_136 1 tm) fi 5)), .int (nI ((newF fl nf pr0 so ta kv_136 1 tm) fi 6)), .int (nI ((newF fl nf pr0 so ta kv_136 1 tm) fi 7))])) := fun fi hfi => by
              by_cases q : fi = nf
              · subst q; rw [newF_self6 c_154]; exact gm_up_self _ _ _
              · rw [newF_ne q]; exact (gm_pass (hf_151 fi hfi) (fun z => q (hA.2 fi nf hfi (by omega) z)))
            refine W.eq (g2 := F0 m 81 ls []) rfl ?_
            refine lv_aload_n hx hb d_Pg_openOutward_81 rfl (lv_at hl 1 rfl) ?_
            refine lv_iload_n hx hb d_Pg_openOutward_82 rfl (lv_at hl 0 rfl) ?_
            refine gc_V (q := (R_Pg, F_Pg, 15)) (n := 1) [.int (nI kv_136)] [] hx hb hml hown hts hK hN hX hP hS (c_Pg_sendOut h_176 h_182 (by omega) (by omega)) rfl h_176 k_597 k_599 ks_Pg_sendOut k_1 k_600 (by decide +kernel) ⟨by decide, by decide⟩ rfl hl.1 rfl (Nat.le_of_ble_eq_true rfl) d_Pg_openOutward_83 ⟨by decide, by decide⟩ (fun r N1 M_186 H locs hw hP hS => ?_)
            obtain ⟨rfl, hw⟩ := hw
            obtain ⟨rfl, rfl⟩ := hw
            have hP : gm_P D cls A N (gm_up (gm_up (gm_up M (g + 63) (.inr (3, [.ref (g + 64), .int (nI (nf + 1))]))) (fa nf) (.inr (2, [.int (nI pr0), .int (nI so), .int (nI ta), .int (nI kv_136), .int (nI 6), .int (nI tm), .int (nI 1), .int (nI 0)]))) (g + 81) (.inl (ca 0, 4, .inl (iN (va_up (va_up (va_up (va_up em 0 200) 1 kv_136) 2 (ta / 256)) 3 (ta % 256)))))) H := hP
            have h_187 := gm_pass (k := (g + 81)) (y := .inl (ca 0, 4, .inl (iN (va_up (va_up (va_up (va_up em 0 200) 1 kv_136) 2 (ta / 256)) 3 (ta % 256))))) h_176 (gm_ne h_176 h_182 (fun h => by cases h))
            have h_188 := gm_pass (k := (g + 81)) (y := .inl (ca 0, 4, .inl (iN (va_up (va_up (va_up (va_up em 0 200) 1 kv_136) 2 (ta / 256)) 3 (ta % 256))))) h_177 (gm_ne h_177 h_182 (fun h => by cases h))
            have h_189 := gm_pass (k := (g + 81)) (y := .inl (ca 0, 4, .inl (iN (va_up (va_up (va_up (va_up em 0 200) 1 kv_136) 2 (ta / 256)) 3 (ta % 256))))) h_178 (by omega)
            have h_190 := gm_pass (k := (g + 81)) (y := .inl (ca 0, 4, .inl (iN (va_up (va_up (va_up (va_up em 0 200) 1 kv_136) 2 (ta / 256)) 3 (ta % 256))))) h_179 (by omega)
            have h_191 := gm_pass (k := (g + 81)) (y := .inl (ca 0, 4, .inl (iN (va_up (va_up (va_up (va_up em 0 200) 1 kv_136) 2 (ta / 256)) 3 (ta % 256))))) h_180 (by omega)
            have h_192 := gm_pass (k := (g + 81)) (y := .inl (ca 0, 4, .inl (iN (va_up (va_up (va_up (va_up em 0 200) 1 kv_136) 2 (ta / 256)) 3 (ta % 256))))) h_181 (gm_ne h_181 h_182 (fun h => by simp at h))
            have h_193 := gm_pass (k := (g + 81)) (y := .inl (ca 0, 4, .inl (iN (va_up (va_up (va_up (va_up em 0 200) 1 kv_136) 2 (ta / 256)) 3 (ta % 256))))) h_183 (gm_ne h_183 h_182 (fun h => by cases h))
            have h_194 := gm_pass (k := (g + 81)) (y := .inl (ca 0, 4, .inl (iN (va_up (va_up (va_up (va_up em 0 200) 1 kv_136) 2 (ta / 256)) 3 (ta % 256))))) h_184 (gm_ne h_184 h_182 (fun h => by cases h))
            have h_195 := gm_up_self (gm_up (gm_up M (g + 63) (.inr (3, [.ref (g + 64), .int (nI (nf + 1))]))) (fa nf) (.inr (2, [.int (nI pr0), .int (nI so), .int (nI ta), .int (nI kv_136), .int (nI 6), .int (nI tm), .int (nI 1), .int (nI 0)]))) (g + 81) (.inl (ca 0, 4, .inl (iN (va_up (va_up (va_up (va_up em 0 200) 1 kv_136) 2 (ta / 256)) 3 (ta % 256)))))
            have hf_196 : ∀ fi, fi < 16 → (gm_up (gm_up (gm_up M (g + 63) (.inr (3, [.ref (g + 64), .int (nI (nf + 1))]))) (fa nf) (.inr (2, [.int (nI pr0), .int (nI so), .int (nI ta), .int (nI kv_136), .int (nI 6), .int (nI tm), .int (nI 1), .int (nI 0)]))) (g + 81) (.inl (ca 0, 4, .inl (iN (va_up (va_up (va_up (va_up em 0 200) 1 kv_136) 2 (ta / 256)) 3 (ta % 256)))))) (fa fi) = some (.inr (2, [.int (nI ((newF fl nf pr0 so ta kv_136 1 tm) fi 0)), .int (nI ((newF fl nf pr0 so ta kv_136 1 tm) fi 1)), .int (nI ((newF fl nf pr0 so ta kv_136 1 tm) fi 2)), .int (nI ((newF fl nf pr0 so ta kv_136 1 tm) fi 3)), .int (nI ((newF fl nf pr0 so ta kv_136 1 tm) fi 4)), .int (nI ((newF fl nf pr0 so ta kv_136 1 tm) fi 5)), .int (nI ((newF fl nf pr0 so ta kv_136 1 tm) fi 6)), .int (nI ((newF fl nf pr0 so ta kv_136 1 tm) fi 7))])) := fun fi hfi => gm_pass (k := (g + 81)) (y := .inl (ca 0, 4, .inl (iN (va_up (va_up (va_up (va_up em 0 200) 1 kv_136) 2 (ta / 256)) 3 (ta % 256))))) (hf_185 fi hfi) (gm_ne (hf_185 fi hfi) h_182 (fun h => by cases h))
            refine W.eq (g2 := F0 m 86 ls [.int (nI 0)]) rfl ?_
            exact gc_iret hx hb hr hlk hP hS d_Pg_openOutward_86 ⟨rfl, nI 0, _, _, _, (by unfold openO; rw [if_neg (by omega), if_neg (by omega), hm_134, hm_141]; rfl), (by omega), okF_new hF (by omega) hso hta (by omega) (by decide) (by omega), h_193, h_195, hf_196, (fun z q0 q1 qr => (gm_up_ne _ _ q1).trans ((gm_up_ne _ _ (fun q => qr (by rw [q]; exact hA.1 nf (by omega)))).trans ((gm_up_ne _ _ q0).trans (rfl)))), rfl⟩
        · skip
          refine W.eq (g2 := F0 m 47 ls [.int (-1)]) rfl ?_
          have hm_197 := freeF_none c_140
          refine lv_istore_n (lv' := [(3, .int (-1)), (0, .ref g), (1, .int (nI pr0)), (2, .int (nI f0))]) hx hb d_Pg_openOutward_47 rfl hl (by decide) rfl (fun ls hl => ?_)
          refine lv_iload_n hx hb d_Pg_openOutward_48 rfl (lv_at hl 0 rfl) ?_
          refine lv_iconst (v := (-1)) hx hb d_Pg_openOutward_49 (by decide) ?_
          refine lv_icmp_ne (tgt := 56) hx hb d_Pg_openOutward_50 (by decide) (fun q => absurd q (by decide)) (fun _ => ?_)
          refine lv_bipush (v := (-7)) hx hb d_Pg_openOutward_53 (by decide) ?_
          exact gc_iret hx hb hr hlk hP hS d_Pg_openOutward_55 ⟨rfl, (-7), fl, nf, em, (by unfold openO; rw [if_neg (by omega), if_neg (by omega), hm_134, hm_197]; rfl), hnf, hF, ef, eem, hf, (fun z q0 q1 qr => rfl), rfl⟩
  · skip
    refine W.eq (g2 := F0 m 5 ls [.int (nI 0)]) rfl ?_
    refine lv_if_ne (tgt := 11) hx hb d_Pg_openOutward_5 (by decide) (fun q => absurd q (by decide)) (fun _ => ?_)
    refine lv_bipush (v := (-6)) hx hb d_Pg_openOutward_8 (by decide) ?_
    exact gc_iret hx hb hr hlk hP hS d_Pg_openOutward_10 ⟨rfl, (-6), fl, nf, em, (by unfold openO; rw [if_pos (by assumption)]), hnf, hF, ef, eem, hf, (fun z q0 q1 qr => rfl), rfl⟩
end C25
