section C40
variable {l : Launch} {D : va_G} {ca : Nat → ClassId} {A : Nat → Prop} {G : gG} {N : Nat} {M : gm_M}

/-- one inside endpoint has one public port, and one public port one inside endpoint, for each protocol -/
def triC (ne : Nat) (pp po pi : Nat → Nat) (nf : Nat) (fl : Nat → Nat → Nat) : Prop :=
  (∀ i j, i < ne → j < ne → pp i = pp j → (pi i = pi j ↔ po i = po j)) ∧ (∀ i j, i < ne → j < nf → pp i = fl j 0 → (pi i = fl j 1 ↔ po i = fl j 3)) ∧ (∀ i j, i < nf → j < nf → fl i 0 = fl j 0 → (fl i 1 = fl j 1 ↔ fl i 3 = fl j 3))
theorem ffP_sat {P : Nat → Prop} {n k : Nat} (h : ffP P n = some k) : k < n ∧ P k := by
  rcases ffP_is P n with ⟨i, e, q1, q2, _⟩ | ⟨e, _⟩
  · rw [e] at h; cases h; exact ⟨q1, q2⟩
  · rw [e] at h; cases h
theorem ffP_no {P : Nat → Prop} {n : Nat} (h : ffP P n = none) : ∀ j, j < n → ¬ P j := by
  rcases ffP_is P n with ⟨i, e, q1, q2, _⟩ | ⟨e, q⟩
  · rw [e] at h; cases h
  · exact q
theorem mpP_tri {ne : Nat} {pp po pi : Nat → Nat} {nf : Nat} {fl : Nat → Nat → Nat} {a b k : Nat} (ht : triC ne pp po pi nf fl) (hk : k < nf) (h0 : fl k 0 = a) (h1 : fl k 1 = b) : mpP ne pp po pi nf fl a b = some (fl k 3) := by
  unfold mpP
  rcases ffP_is (fun k => pp k = a ∧ pi k = b) ne with ⟨i, e, q1, q2, _⟩ | ⟨e, q1⟩
  · have q2 : pp i = a ∧ pi i = b := q2
    rw [e]; exact congrArg some ((ht.2.1 i k q1 hk (by omega)).mp (by omega))
  · rw [e]
    rcases ffP_is (fun k => fl k 0 = a ∧ fl k 1 = b) nf with ⟨i, e2, q3, q4, _⟩ | ⟨e2, q3⟩
    · have q4 : fl i 0 = a ∧ fl i 1 = b := q4
      rw [e2]; exact congrArg some ((ht.2.2 i k q3 hk (by omega)).mp (by omega))
    · exact absurd ⟨h0, h1⟩ (q3 k hk)
theorem mpE_tri {ne : Nat} {pp po pi : Nat → Nat} {nf : Nat} {fl : Nat → Nat → Nat} {a b k : Nat} (ht : triC ne pp po pi nf fl) (hk : k < nf) (h0 : fl k 0 = a) (h1 : fl k 3 = b) : mpE ne pp po pi nf fl a b = some (fl k 1) := by
  unfold mpE
  rcases ffP_is (fun k => pp k = a ∧ po k = b) ne with ⟨i, e, q1, q2, _⟩ | ⟨e, q1⟩
  · have q2 : pp i = a ∧ po i = b := q2
    rw [e]; exact congrArg some ((ht.2.1 i k q1 hk (by omega)).mpr (by omega))
  · rw [e]
    rcases ffP_is (fun k => fl k 0 = a ∧ fl k 3 = b) nf with ⟨i, e2, q3, q4, _⟩ | ⟨e2, q3⟩
    · have q4 : fl i 0 = a ∧ fl i 3 = b := q4
      rw [e2]; exact congrArg some ((ht.2.2 i k q3 hk (by omega)).mpr (by omega))
    · exact absurd ⟨h0, h1⟩ (q3 k hk)
theorem mpE_spec {ne : Nat} {pp po pi : Nat → Nat} {nf : Nat} {fl : Nat → Nat → Nat} {a b v : Nat} (h : mpE ne pp po pi nf fl a b = some v) : (∃ k, k < ne ∧ pp k = a ∧ po k = b ∧ pi k = v) ∨ (∃ k, k < nf ∧ fl k 0 = a ∧ fl k 3 = b ∧ fl k 1 = v) := by
  unfold mpE at h
  rcases ffP_is (fun k => pp k = a ∧ po k = b) ne with ⟨k, e, h1, h2, _⟩ | ⟨e, h1⟩
  · rw [e] at h; exact Or.inl ⟨k, h1, h2.1, h2.2, Option.some.inj h⟩
  · rw [e] at h
    rcases ffP_is (fun k => fl k 0 = a ∧ fl k 3 = b) nf with ⟨k, e2, h3, h4, _⟩ | ⟨e2, h3⟩
    · rw [e2] at h; exact Or.inr ⟨k, h3, h4.1, h4.2, Option.some.inj h⟩
    · rw [e2] at h; cases h
theorem mpP_spec {ne : Nat} {pp po pi : Nat → Nat} {nf : Nat} {fl : Nat → Nat → Nat} {a b v : Nat} (h : mpP ne pp po pi nf fl a b = some v) : (∃ k, k < ne ∧ pp k = a ∧ pi k = b ∧ po k = v) ∨ (∃ k, k < nf ∧ fl k 0 = a ∧ fl k 1 = b ∧ fl k 3 = v) := by
  unfold mpP at h
  rcases ffP_is (fun k => pp k = a ∧ pi k = b) ne with ⟨k, e, h1, h2, _⟩ | ⟨e, h1⟩
  · rw [e] at h; exact Or.inl ⟨k, h1, h2.1, h2.2, Option.some.inj h⟩
  · rw [e] at h
    rcases ffP_is (fun k => fl k 0 = a ∧ fl k 1 = b) nf with ⟨k, e2, h3, h4, _⟩ | ⟨e2, h3⟩
    · rw [e2] at h; exact Or.inr ⟨k, h3, h4.1, h4.2, Option.some.inj h⟩
    · rw [e2] at h; cases h
theorem rep_some {ne : Nat} {pp po pi : Nat → Nat} {nf : Nat} {fl : Nat → Nat → Nat} {em : Nat → Nat} {so ta pr0 k : Nat} (ht : triC ne pp po pi nf fl) (hk : k < nf) (h : fl k 0 = pr0 ∧ fl k 3 = so % 256 ∧ so / 256 = 200 ∧ fl k 2 = ta) : repF ne pp po pi nf fl em so ta pr0 = (nI 0, eUp em (fl k 1 / 256) (fl k 1 % 256) (ta / 256) (ta % 256)) := by
  unfold repF
  rw [if_neg (by omega), mpE_tri ht hk h.1 h.2.1]
  rcases ffP_is (fun j => fl j 0 = pr0 ∧ fl j 1 = fl k 1 ∧ fl j 2 = ta) nf with ⟨i, e, _⟩ | ⟨e, q⟩
  · simp only [e]
  · exact absurd ⟨h.1, rfl, h.2.2.2⟩ (q k hk)
theorem rep_none {ne : Nat} {pp po pi : Nat → Nat} {nf : Nat} {fl : Nat → Nat → Nat} {em : Nat → Nat} {so ta pr0 : Nat} (ht : triC ne pp po pi nf fl) (h : ∀ k, k < nf → ¬ (fl k 0 = pr0 ∧ fl k 3 = so % 256 ∧ so / 256 = 200 ∧ fl k 2 = ta)) : repF ne pp po pi nf fl em so ta pr0 = (-4, em) := by
  unfold repF
  by_cases q : so / 256 = 200
  · rw [if_neg (by omega)]
    cases e : mpE ne pp po pi nf fl pr0 (so % 256) with
    | none => rfl
    | some i =>
      simp only
      cases e2 : ffP (fun k => fl k 0 = pr0 ∧ fl k 1 = i ∧ fl k 2 = ta) nf with
      | none => rfl
      | some k =>
        exfalso
        obtain ⟨hk, hk0, hk1, hk2⟩ := ffP_sat e2
        refine h k hk ⟨hk0, ?_, q, hk2⟩
        rcases mpE_spec e with ⟨j, j1, j2, j3, j4⟩ | ⟨j, j1, j2, j3, j4⟩
        · have := (ht.2.1 j k j1 hk (by omega)).mp (by omega); omega
        · have := (ht.2.2 j k j1 hk (by omega)).mp (by omega); omega
  · rw [if_pos q]
/-- how many of the first n pairs of a protocol and a port from 100 some flow has -/
noncomputable def cU (fl : Nat → Nat → Nat) (nf : Nat) : Nat → Nat
  | 0 => 0
  | n + 1 => cU fl nf n + (@ite Nat (used fl nf (n / 12) (100 + n % 12)) (Classical.propDecidable _) 1 0)
theorem cU_y {fl : Nat → Nat → Nat} {nf n : Nat} (h : used fl nf (n / 12) (100 + n % 12)) : cU fl nf (n + 1) = cU fl nf n + 1 := by rw [cU, if_pos h]
theorem cU_n {fl : Nat → Nat → Nat} {nf n : Nat} (h : ¬ used fl nf (n / 12) (100 + n % 12)) : cU fl nf (n + 1) = cU fl nf n := by rw [cU, if_neg h]; rfl
theorem cnt_lift {y : Int32} (h1 : ¬ y < 0) (h2 : y ≤ nI 11) : ∃ k : Nat, k < 12 ∧ y = nI k := by
  obtain ⟨f, hf, e2⟩ := in_lift (g := 11) (by decide) ⟨h1, Int32.not_lt.mpr h2⟩
  exact ⟨f, by omega, e2⟩
/-- accepted before, or 32 below the greatest accepted -/
def oldM (aA aS : Nat → Nat) (na a sq : Nat) : Prop := sq + 32 ≤ topA aA aS a na ∨ ∃ k, k < na ∧ aA k = a ∧ aS k = sq
def sealM (a : Nat) (aA aS : Nat → Nat) (na nr : Nat) (ru lw hw : Nat → Nat → Nat) (em : Nat → Nat) (so ta sq au pr0 : Nat) (r0 : Int32) (na1 : Nat) (aA1 aS1 em1 : Nat → Nat) : Prop :=
  (oldM aA aS na a sq ∧ r0 = -8 ∧ na1 = na ∧ aA1 = aA ∧ aS1 = aS ∧ em1 = em) ∨ (¬ oldM aA aS na a sq ∧ au = 0 ∧ r0 = -9 ∧ na1 = na ∧ aA1 = aA ∧ aS1 = aS ∧ em1 = em) ∨
  (¬ oldM aA aS na a sq ∧ ¬ au = 0 ∧ na1 = na + 1 ∧ aA1 = va_up aA na a ∧ aS1 = va_up aS na sq ∧ seF nr ru lw hw em so ta pr0 = (r0, em1))
theorem un_em (y1 y2 y4 y5 : Int32) (cn : Nat) : (∃ sq pr0 f0 : Nat, (sq < 9999 ∧ pr0 ≤ 2 ∧ f0 ≤ 15) ∧ y2 = nI (sq + 1) ∧ y4 = nI pr0 ∧ y5 = nI f0 ∧ y1 = nI cn) ∨ (∃ sq pr0 f0 : Nat, (sq < 9999 ∧ pr0 ≤ 2 ∧ f0 ≤ 15) ∧ ¬ y1 = nI cn ∧ y2 = nI (sq + 1) ∧ y4 = nI pr0 ∧ y5 = nI f0 ∧ y1 = nI (cn - 1)) ∨ (∃ sq pr0 f0 : Nat, (sq < 9999 ∧ pr0 ≤ 2 ∧ f0 ≤ 15) ∧ ¬ y1 = nI cn ∧ ¬ y1 = nI (cn - 1) ∧ y2 = nI (sq + 1) ∧ y4 = nI pr0 ∧ y5 = nI f0) ∨ ¬ ((∃ k : Nat, k < 9999 ∧ y2 = nI (k + 1)) ∧ inr y4 2 ∧ inr y5 15) := by
  rcases Classical.em ((∃ k : Nat, k < 9999 ∧ y2 = nI (k + 1)) ∧ inr y4 2 ∧ inr y5 15) with ⟨⟨sq, h1, e1⟩, ⟨pr0, h2, e2⟩, ⟨f0, h3, e3⟩⟩ | h
  · by_cases q : y1 = nI cn
    · exact Or.inl ⟨sq, pr0, f0, ⟨h1, h2, h3⟩, e1, e2, e3, q⟩
    · by_cases q2 : y1 = nI (cn - 1)
      · exact Or.inr (Or.inl ⟨sq, pr0, f0, ⟨h1, h2, h3⟩, q, e1, e2, e3, q2⟩)
      · exact Or.inr (Or.inr (Or.inl ⟨sq, pr0, f0, ⟨h1, h2, h3⟩, q, q2, e1, e2, e3⟩))
  · exact Or.inr (Or.inr (Or.inr h))
theorem un_neg : ∀ tp : Nat, tp < 32 → nI tp - nI 32 < 0 := by decide
theorem un_old {tp sq : Nat} (ht : tp ≤ 9999) (hs : sq < 2 ^ 30) : nI tp - nI 32 < nI sq ↔ ¬ sq + 32 ≤ tp := by
  by_cases q : 32 ≤ tp
  · rw [pk_sub q]
    by_cases z : tp - 32 < sq
    · exact ⟨fun _ => by omega, fun _ => nI_lt z (by omega)⟩
    · exact ⟨fun w => absurd w (nI_nlt (by omega) (by omega)), fun w => absurd w (by omega)⟩
  · exact ⟨fun _ => by omega, fun _ => Int32.lt_of_lt_of_le (un_neg tp (by omega)) (Int32.not_lt.mp (nI_pos (by omega)))⟩
set_option maxHeartbeats 4000000 in
set_option maxRecDepth 100000 in
theorem c_Mo_report (y : Int32) {h le nr tl ne nf na an tm cn cs bd lt nt wh : Nat} {bp fx fy : Int32} {hd : Nat → Nat} {em : Nat → Nat} {mq : Nat → Nat → Nat} {pp po pi : Nat → Nat} {fl : Nat → Nat → Nat} {so ta : Nat} (eh : M h = some (moO h (nI le) bp (nI nr) (nI wh) (nI tl) (nI ne) (nI nf) (nI na) (nI an) (nI tm) (nI cn) (nI cs) (nI bd) (nI lt) (nI nt) fx fy)) (m26 : M (h + 26) = some (.inl (ca 0, 4, .inl (iN hd)))) (m27 : M (h + 27) = some (.inl (ca 0, 4, .inl (iN em)))) (m14 : M (h + 14) = some (.inl (ca 0, 17, .inl (iN (mq 0))))) (m15 : M (h + 15) = some (.inl (ca 0, 17, .inl (iN (mq 1))))) (m16 : M (h + 16) = some (.inl (ca 0, 17, .inl (iN (mq 2))))) (m17 : M (h + 17) = some (.inl (ca 0, 17, .inl (iN (mq 3))))) (m18 : M (h + 18) = some (.inl (ca 0, 17, .inl (iN (mq 4))))) (m19 : M (h + 19) = some (.inl (ca 0, 17, .inl (iN (mq 5))))) (m20 : M (h + 20) = some (.inl (ca 0, 17, .inl (iN (mq 6))))) (m21 : M (h + 21) = some (.inl (ca 0, 17, .inl (iN (mq 7))))) (m22 : M (h + 22) = some (.inl (ca 0, 17, .inl (iN (mq 8))))) (m23 : M (h + 23) = some (.inl (ca 0, 17, .inl (iN (mq 9))))) (hRF : relF nf fl mq) (hnf : nf ≤ 16) (hF : okF fl) (hhd : hd 0 = so / 256 ∧ hd 1 = so % 256 ∧ hd 2 = ta / 256 ∧ hd 3 = ta % 256) (hso : so < 65536) (hta : ta < 65536) (hT : triC ne pp po pi nf fl) : gC l D ca A G y_Mo_report (.code y_Mo_report b_Mo_report 4 (some .int)) ({ frames := 1, cells := 0, slots := 0, locals := 25 }) N M [.ref h, .int y] gm_i (fun (r : Int32) (N1 : Nat) (M1 : gm_M) => N = N1 ∧ (((¬ inr y 2) ∧ M = M1 ∧ (-1) = r) ∨ (∃ (pr0 : Nat) (r0 : Int32) (em1 : Nat → Nat) (lt1 : Nat) (nt1 : Nat) (an1 : Nat), (y = nI pr0 ∧ pr0 ≤ 2) ∧ (repF ne pp po pi nf fl em so ta pr0 = (r0, em1)) ∧ ((¬ r0 < 0 ∧ lt1 = lt + 1 ∧ nt1 = nt ∧ an1 = 1) ∨ (r0 < 0 ∧ lt1 = lt ∧ nt1 = nt + 1 ∧ an1 = an)) ∧ M1 h = some (moO h (nI le) bp (nI nr) (nI wh) (nI tl) (nI ne) (nI nf) (nI na) (nI an1) (nI tm) (nI cn) (nI cs) (nI bd) (nI lt1) (nI nt1) fx fy) ∧ M1 (h + 27) = some (.inl (ca 0, 4, .inl (iN em1))) ∧ (∀ z, z ≠ h → z ≠ (h + 27) → M1 z = M z) ∧ r0 = r))) := by
  refine gm_body (by decide) (Nat.le_of_ble_eq_true rfl) (fun p e s m below meth c ls hx hb hr hts hown hlk hml hnm hP hK hN hX hS hl => ?_)
  have htl : ∀ w ∈ LW, w.before _ s = true := fun w h => hts w (List.mem_cons_of_mem _ h)
  have hown : s.vm.findClass "PacketGateModel" = some m.cls := hown
  have hl : lv_has ls 4 [(0, .ref h), (1, .int y)] := hl
  generalize hQ : MQ below _ _ s _ _ A = Q
  rcases Classical.em (inr y 2) with ⟨pr0, hpr0, rfl⟩ | hno
  · skip
    refine lv_iload_n hx hb d_Mo_report_0 rfl (lv_at hl 1 rfl) ?_
    refine gc_S (n := 1) [.int (nI pr0)] [] hx hb hml hown hts hK hN hX hP hS (c_Mo_isProtocol (nI pr0)) k_923 k_924 k_10 k_925 (by decide +kernel) ⟨by decide, by decide⟩ rfl hl.1 rfl (Nat.le_of_ble_eq_true rfl) d_Mo_report_1 ⟨by decide, by decide⟩ (fun r N1 M_1 H locs hw hP hS => ?_)
    obtain ⟨rfl, hw⟩ := hw
    rcases hw with ⟨c_2, rfl, rfl⟩ | ⟨c_3, rfl, rfl⟩
    · skip
      refine W.eq (g2 := F0 m 4 ls [.int (nI 1)]) rfl ?_
      refine lv_if_ne (tgt := 9) hx hb d_Mo_report_4 (by decide) (fun _ => ?_) (fun q => absurd q (by decide))
      refine lv_iconst (v := nI 0) hx hb d_Mo_report_9 (by decide) ?_
      refine lv_istore_n (lv' := [(2, .int (nI 0)), (0, .ref h), (1, .int (nI pr0))]) hx hb d_Mo_report_10 rfl hl (by decide) rfl (fun ls hl => ?_)
      have loop_11 : ∀ (fu : Nat) (i : Nat) (ls : Array Slot) (H : Heap) (locs : List Loc), (i ≤ nf) → (∀ z, z < i → ¬ (fl z 0 = pr0 ∧ fl z 3 = so % 256 ∧ so / 256 = 200 ∧ fl z 2 = ta)) → (nf - i) < fu → gm_P D cls A N M H → va_S A s.heap H locs → lv_has ls 4 [(0, .ref h), (1, .int (nI pr0)), (2, .int (nI i))] → W p l e ({ frames := 1, cells := 0, slots := 0, locals := 25 }) s m ([.ref h, .int (nI pr0)] : List Value).toArray below meth c H locs (0) (0) Q (F0 m 11 ls []) := by
        intro fu
        induction fu with
        | zero => intro i ls H locs hi hno1 hk; exact absurd hk (Nat.not_lt_zero _)
        | succ fu ih_11 =>
          intro i ls H locs hi hno1 hk hP hS hl
          refine lv_iload_n hx hb d_Mo_report_11 rfl (lv_at hl 2 rfl) ?_
          refine lv_aload_n hx hb d_Mo_report_12 rfl (lv_at hl 0 rfl) ?_
          refine gm_get (C := R_Mo) (T := F_Mo) (n := 44) hx hb htl i_Mo hown hK hP eh rfl 29 (by decide) (htl _ k_772) (fun _ h => h) rfl d_Mo_report_13 ?_
          refine ln_ge (tgt := 132) hx hb d_Mo_report_16 (by decide) (by omega) (by omega) (fun c_4 => ?_) (fun c_4 => ?_)
          · skip
            refine lv_aload_n hx hb d_Mo_report_132 rfl (lv_at hl 0 rfl) ?_
            refine lv_bipush (v := (-4)) hx hb d_Mo_report_133 (by decide) ?_
            refine gc_V (q := (R_Mo, F_Mo, 44)) (n := 1) [.int (-4)] [] hx hb hml hown hts hK hN hX hP hS (c_Mo_stop (-4) eh) rfl eh k_959 k_961 ks_Mo_stop k_10 k_962 (by decide +kernel) ⟨by decide, by decide⟩ rfl hl.1 rfl (Nat.le_of_ble_eq_true rfl) d_Mo_report_135 ⟨by decide, by decide⟩ (fun r N1 M_5 H locs hw hP hS => ?_)
            obtain ⟨rfl, hw⟩ := hw
            obtain ⟨rfl, rfl⟩ := hw
            have hP : gm_P D cls A N (gm_up M h (moO h (nI le) bp (nI nr) (nI wh) (nI tl) (nI ne) (nI nf) (nI na) (nI an) (nI tm) (nI cn) (nI cs) (nI bd) (nI lt) (nI (nt + 1)) fx fy)) H := hP
            have h_6 := gm_pass (k := h) (y := moO h (nI le) bp (nI nr) (nI wh) (nI tl) (nI ne) (nI nf) (nI na) (nI an) (nI tm) (nI cn) (nI cs) (nI bd) (nI lt) (nI (nt + 1)) fx fy) m26 (gm_ne m26 eh (fun h => by cases h))
            have h_7 := gm_pass (k := h) (y := moO h (nI le) bp (nI nr) (nI wh) (nI tl) (nI ne) (nI nf) (nI na) (nI an) (nI tm) (nI cn) (nI cs) (nI bd) (nI lt) (nI (nt + 1)) fx fy) m27 (gm_ne m27 eh (fun h => by cases h))
            have h_8 := gm_pass (k := h) (y := moO h (nI le) bp (nI nr) (nI wh) (nI tl) (nI ne) (nI nf) (nI na) (nI an) (nI tm) (nI cn) (nI cs) (nI bd) (nI lt) (nI (nt + 1)) fx fy) m14 (gm_ne m14 eh (fun h => by cases h))
            have h_9 := gm_pass (k := h) (y := moO h (nI le) bp (nI nr) (nI wh) (nI tl) (nI ne) (nI nf) (nI na) (nI an) (nI tm) (nI cn) (nI cs) (nI bd) (nI lt) (nI (nt + 1)) fx fy) m15 (gm_ne m15 eh (fun h => by cases h))
            have h_10 := gm_pass (k := h) (y := moO h (nI le) bp (nI nr) (nI wh) (nI tl) (nI ne) (nI nf) (nI na) (nI an) (nI tm) (nI cn) (nI cs) (nI bd) (nI lt) (nI (nt + 1)) fx fy) m16 (gm_ne m16 eh (fun h => by cases h))
            have h_11 := gm_pass (k := h) (y := moO h (nI le) bp (nI nr) (nI wh) (nI tl) (nI ne) (nI nf) (nI na) (nI an) (nI tm) (nI cn) (nI cs) (nI bd) (nI lt) (nI (nt + 1)) fx fy) m17 (gm_ne m17 eh (fun h => by cases h))
            have h_12 := gm_pass (k := h) (y := moO h (nI le) bp (nI nr) (nI wh) (nI tl) (nI ne) (nI nf) (nI na) (nI an) (nI tm) (nI cn) (nI cs) (nI bd) (nI lt) (nI (nt + 1)) fx fy) m18 (gm_ne m18 eh (fun h => by cases h))
            have h_13 := gm_pass (k := h) (y := moO h (nI le) bp (nI nr) (nI wh) (nI tl) (nI ne) (nI nf) (nI na) (nI an) (nI tm) (nI cn) (nI cs) (nI bd) (nI lt) (nI (nt + 1)) fx fy) m19 (gm_ne m19 eh (fun h => by cases h))
            have h_14 := gm_pass (k := h) (y := moO h (nI le) bp (nI nr) (nI wh) (nI tl) (nI ne) (nI nf) (nI na) (nI an) (nI tm) (nI cn) (nI cs) (nI bd) (nI lt) (nI (nt + 1)) fx fy) m20 (gm_ne m20 eh (fun h => by cases h))
            have h_15 := gm_pass (k := h) (y := moO h (nI le) bp (nI nr) (nI wh) (nI tl) (nI ne) (nI nf) (nI na) (nI an) (nI tm) (nI cn) (nI cs) (nI bd) (nI lt) (nI (nt + 1)) fx fy) m21 (gm_ne m21 eh (fun h => by cases h))
            have h_16 := gm_pass (k := h) (y := moO h (nI le) bp (nI nr) (nI wh) (nI tl) (nI ne) (nI nf) (nI na) (nI an) (nI tm) (nI cn) (nI cs) (nI bd) (nI lt) (nI (nt + 1)) fx fy) m22 (gm_ne m22 eh (fun h => by cases h))
            have h_17 := gm_pass (k := h) (y := moO h (nI le) bp (nI nr) (nI wh) (nI tl) (nI ne) (nI nf) (nI na) (nI an) (nI tm) (nI cn) (nI cs) (nI bd) (nI lt) (nI (nt + 1)) fx fy) m23 (gm_ne m23 eh (fun h => by cases h))
            have h_18 := gm_up_self M h (moO h (nI le) bp (nI nr) (nI wh) (nI tl) (nI ne) (nI nf) (nI na) (nI an) (nI tm) (nI cn) (nI cs) (nI bd) (nI lt) (nI (nt + 1)) fx fy)
            refine W.eq (g2 := F0 m 138 ls [.int (-4)]) rfl ?_
            rw [← hQ]
            exact gc_iret hx hb hr hlk hP hS d_Mo_report_138 ⟨rfl, Or.inr ⟨pr0, (-4), em, lt, (nt + 1), an, ⟨rfl, hpr0⟩, rep_none hT (fun z hz => hno1 z (by omega)), (Or.inr ⟨by decide, rfl, rfl, rfl⟩), h_18, h_7, (fun z q0 q1 => (gm_up_ne _ _ q0).trans (rfl)), rfl⟩⟩
          · skip
            refine lv_aload_n hx hb d_Mo_report_19 rfl (lv_at hl 0 rfl) ?_
            refine gm_get (C := R_Mo) (T := F_Mo) (n := 44) hx hb htl i_Mo hown hK hP eh rfl 20 (by decide) (htl _ k_763) (fun _ h => h) rfl d_Mo_report_20 ?_
            refine lv_iload_n hx hb d_Mo_report_23 rfl (lv_at hl 2 rfl) ?_
            refine gz_iald hx hb hK hP 0 m15 rfl (by omega) (by omega) d_Mo_report_24 ?_
            rw [show (mq 1) i = fl i 0 from (hRF i (by omega)).2.1]
            have b_19 := (hF i).2
            refine lv_iload_n hx hb d_Mo_report_25 rfl (lv_at hl 1 rfl) ?_
            refine ln_ne (tgt := 60) hx hb d_Mo_report_26 (by decide) (by omega) (by omega) (fun c_20 => ?_) (fun c_20 => ?_)
            · skip
              refine lv_iconst (v := nI 0) hx hb d_Mo_report_60 (by decide) ?_
              refine lv_istore_n (lv' := [(3, .int (nI 0)), (0, .ref h), (1, .int (nI pr0)), (2, .int (nI i))]) hx hb d_Mo_report_61 rfl hl (by decide) rfl (fun ls hl => ?_)
              refine lv_iload_n hx hb d_Mo_report_62 rfl (lv_at hl 0 rfl) ?_
              refine lv_if_eq (tgt := 126) hx hb d_Mo_report_63 (by decide) (fun _ => ?_) (fun q => absurd q (by decide))
              refine lv_iinc (v := nI (i + 1)) (lv' := [(2, .int (nI (i + 1))), (3, .int (nI 0)), (0, .ref h), (1, .int (nI pr0))]) hx hb d_Mo_report_126 hl (k := 3) rfl (nI_1 i) (by decide) rfl (fun ls hl => ?_)
              refine lv_goto (tgt := 11) hx hb d_Mo_report_129 (by decide) ?_
              exact ih_11 (i + 1) ls _ _ (by omega) (fun z hz => by by_cases q : z = i; subst q; omega; exact hno1 z (by omega)) (by omega) hP hS (lv_sub hl [2, 3, 0] rfl)
            · skip
              refine lv_aload_n hx hb d_Mo_report_29 rfl (lv_at hl 0 rfl) ?_
              refine gm_get (C := R_Mo) (T := F_Mo) (n := 44) hx hb htl i_Mo hown hK hP eh rfl 25 (by decide) (htl _ k_768) (fun _ h => h) rfl d_Mo_report_30 ?_
              refine lv_iload_n hx hb d_Mo_report_33 rfl (lv_at hl 2 rfl) ?_
              refine gz_iald hx hb hK hP 0 m20 rfl (by omega) (by omega) d_Mo_report_34 ?_
              rw [show (mq 6) i = fl i 3 from (hRF i (by omega)).2.2.2.2.2.2.1]
              have b_21 := (hF i).1 3
              refine lv_aload_n hx hb d_Mo_report_35 rfl (lv_at hl 0 rfl) ?_
              refine gm_get (C := R_Mo) (T := F_Mo) (n := 44) hx hb htl i_Mo hown hK hP eh rfl 33 (by decide) (htl _ k_776) (fun _ h => h) rfl d_Mo_report_36 ?_
              refine lv_iconst (v := nI 1) hx hb d_Mo_report_39 (by decide) ?_
              refine gz_iald hx hb hK hP 0 m26 rfl (by omega) (by omega) d_Mo_report_40 ?_
              rw [show hd 1 = so % 256 from hhd.2.1]
              refine ln_ne (tgt := 60) hx hb d_Mo_report_41 (by decide) (by omega) (by omega) (fun c_22 => ?_) (fun c_22 => ?_)
              · skip
                refine lv_iconst (v := nI 0) hx hb d_Mo_report_60 (by decide) ?_
                refine lv_istore_n (lv' := [(3, .int (nI 0)), (0, .ref h), (1, .int (nI pr0)), (2, .int (nI i))]) hx hb d_Mo_report_61 rfl hl (by decide) rfl (fun ls hl => ?_)
                refine lv_iload_n hx hb d_Mo_report_62 rfl (lv_at hl 0 rfl) ?_
                refine lv_if_eq (tgt := 126) hx hb d_Mo_report_63 (by decide) (fun _ => ?_) (fun q => absurd q (by decide))
                refine lv_iinc (v := nI (i + 1)) (lv' := [(2, .int (nI (i + 1))), (3, .int (nI 0)), (0, .ref h), (1, .int (nI pr0))]) hx hb d_Mo_report_126 hl (k := 3) rfl (nI_1 i) (by decide) rfl (fun ls hl => ?_)
                refine lv_goto (tgt := 11) hx hb d_Mo_report_129 (by decide) ?_
                exact ih_11 (i + 1) ls _ _ (by omega) (fun z hz => by by_cases q : z = i; subst q; omega; exact hno1 z (by omega)) (by omega) hP hS (lv_sub hl [2, 3, 0] rfl)
              · skip
                refine lv_aload_n hx hb d_Mo_report_44 rfl (lv_at hl 0 rfl) ?_
                refine gm_get (C := R_Mo) (T := F_Mo) (n := 44) hx hb htl i_Mo hown hK hP eh rfl 33 (by decide) (htl _ k_776) (fun _ h => h) rfl d_Mo_report_45 ?_
                refine lv_iconst (v := nI 0) hx hb d_Mo_report_48 (by decide) ?_
                refine gz_iald hx hb hK hP 0 m26 rfl (by omega) (by omega) d_Mo_report_49 ?_
                rw [show hd 0 = so / 256 from hhd.1]
                refine lv_sipush (v := nI 200) hx hb d_Mo_report_50 (by decide) ?_
                refine ln_ne (tgt := 60) hx hb d_Mo_report_53 (by decide) (by omega) (by omega) (fun c_23 => ?_) (fun c_23 => ?_)
                · skip
                  refine lv_iconst (v := nI 0) hx hb d_Mo_report_60 (by decide) ?_
                  refine lv_istore_n (lv' := [(3, .int (nI 0)), (0, .ref h), (1, .int (nI pr0)), (2, .int (nI i))]) hx hb d_Mo_report_61 rfl hl (by decide) rfl (fun ls hl => ?_)
                  refine lv_iload_n hx hb d_Mo_report_62 rfl (lv_at hl 0 rfl) ?_
                  refine lv_if_eq (tgt := 126) hx hb d_Mo_report_63 (by decide) (fun _ => ?_) (fun q => absurd q (by decide))
                  refine lv_iinc (v := nI (i + 1)) (lv' := [(2, .int (nI (i + 1))), (3, .int (nI 0)), (0, .ref h), (1, .int (nI pr0))]) hx hb d_Mo_report_126 hl (k := 3) rfl (nI_1 i) (by decide) rfl (fun ls hl => ?_)
                  refine lv_goto (tgt := 11) hx hb d_Mo_report_129 (by decide) ?_
                  exact ih_11 (i + 1) ls _ _ (by omega) (fun z hz => by by_cases q : z = i; subst q; omega; exact hno1 z (by omega)) (by omega) hP hS (lv_sub hl [2, 3, 0] rfl)
                · skip
                  refine lv_iconst (v := nI 1) hx hb d_Mo_report_56 (by decide) ?_
                  refine lv_goto (tgt := 61) hx hb d_Mo_report_57 (by decide) ?_
                  refine lv_istore_n (lv' := [(3, .int (nI 1)), (0, .ref h), (1, .int (nI pr0)), (2, .int (nI i))]) hx hb d_Mo_report_61 rfl hl (by decide) rfl (fun ls hl => ?_)
                  refine lv_iload_n hx hb d_Mo_report_62 rfl (lv_at hl 0 rfl) ?_
                  refine lv_if_eq (tgt := 126) hx hb d_Mo_report_63 (by decide) (fun q => absurd q (by decide)) (fun _ => ?_)
                  refine lv_aload_n hx hb d_Mo_report_66 rfl (lv_at hl 1 rfl) ?_
                  refine gm_get (C := R_Mo) (T := F_Mo) (n := 44) hx hb htl i_Mo hown hK hP eh rfl 23 (by decide) (htl _ k_766) (fun _ h => h) rfl d_Mo_report_67 ?_
                  refine lv_iload_n hx hb d_Mo_report_70 rfl (lv_at hl 3 rfl) ?_
                  refine gz_iald hx hb hK hP 0 m18 rfl (by omega) (by omega) d_Mo_report_71 ?_
                  rw [show (mq 4) i = fl i 2 / 256 from (hRF i (by omega)).2.2.2.2.1]
                  have b_24 := (hF i).2
                  refine lv_aload_n hx hb d_Mo_report_72 rfl (lv_at hl 1 rfl) ?_
                  refine gm_get (C := R_Mo) (T := F_Mo) (n := 44) hx hb htl i_Mo hown hK hP eh rfl 33 (by decide) (htl _ k_776) (fun _ h => h) rfl d_Mo_report_73 ?_
                  refine lv_iconst (v := nI 2) hx hb d_Mo_report_76 (by decide) ?_
                  refine gz_iald hx hb hK hP 0 m26 rfl (by omega) (by omega) d_Mo_report_77 ?_
                  rw [show hd 2 = ta / 256 from hhd.2.2.1]
                  refine ln_ne (tgt := 126) hx hb d_Mo_report_78 (by decide) (by omega) (by omega) (fun c_25 => ?_) (fun c_25 => ?_)
                  · skip
                    refine lv_iinc (v := nI (i + 1)) (lv' := [(2, .int (nI (i + 1))), (3, .int (nI 1)), (0, .ref h), (1, .int (nI pr0))]) hx hb d_Mo_report_126 hl (k := 3) rfl (nI_1 i) (by decide) rfl (fun ls hl => ?_)
                    refine lv_goto (tgt := 11) hx hb d_Mo_report_129 (by decide) ?_
                    exact ih_11 (i + 1) ls _ _ (by omega) (fun z hz => by by_cases q : z = i; subst q; omega; exact hno1 z (by omega)) (by omega) hP hS (lv_sub hl [2, 3, 0] rfl)
                  · skip
                    refine lv_aload_n hx hb d_Mo_report_81 rfl (lv_at hl 1 rfl) ?_
                    refine gm_get (C := R_Mo) (T := F_Mo) (n := 44) hx hb htl i_Mo hown hK hP eh rfl 24 (by decide) (htl _ k_767) (fun _ h => h) rfl d_Mo_report_82 ?_
                    refine lv_iload_n hx hb d_Mo_report_85 rfl (lv_at hl 3 rfl) ?_
                    refine gz_iald hx hb hK hP 0 m19 rfl (by omega) (by omega) d_Mo_report_86 ?_
                    rw [show (mq 5) i = fl i 2 % 256 from (hRF i (by omega)).2.2.2.2.2.1]
                    have b_26 := (hF i).2
                    refine lv_aload_n hx hb d_Mo_report_87 rfl (lv_at hl 1 rfl) ?_
                    refine gm_get (C := R_Mo) (T := F_Mo) (n := 44) hx hb htl i_Mo hown hK hP eh rfl 33 (by decide) (htl _ k_776) (fun _ h => h) rfl d_Mo_report_88 ?_
                    refine lv_iconst (v := nI 3) hx hb d_Mo_report_91 (by decide) ?_
                    refine gz_iald hx hb hK hP 0 m26 rfl (by omega) (by omega) d_Mo_report_92 ?_
                    rw [show hd 3 = ta % 256 from hhd.2.2.2]
                    refine ln_ne (tgt := 126) hx hb d_Mo_report_93 (by decide) (by omega) (by omega) (fun c_27 => ?_) (fun c_27 => ?_)
                    · skip
                      refine lv_iinc (v := nI (i + 1)) (lv' := [(2, .int (nI (i + 1))), (3, .int (nI 1)), (0, .ref h), (1, .int (nI pr0))]) hx hb d_Mo_report_126 hl (k := 3) rfl (nI_1 i) (by decide) rfl (fun ls hl => ?_)
                      refine lv_goto (tgt := 11) hx hb d_Mo_report_129 (by decide) ?_
                      exact ih_11 (i + 1) ls _ _ (by omega) (fun z hz => by by_cases q : z = i; subst q; omega; exact hno1 z (by omega)) (by omega) hP hS (lv_sub hl [2, 3, 0] rfl)
                    · skip
                      refine lv_aload_n hx hb d_Mo_report_96 rfl (lv_at hl 1 rfl) ?_
                      refine lv_iconst (v := nI 0) hx hb d_Mo_report_97 (by decide) ?_
                      refine lv_aload_n hx hb d_Mo_report_98 rfl (lv_at hl 1 rfl) ?_
                      refine gm_get (C := R_Mo) (T := F_Mo) (n := 44) hx hb htl i_Mo hown hK hP eh rfl 21 (by decide) (htl _ k_764) (fun _ h => h) rfl d_Mo_report_99 ?_
                      refine lv_iload_n hx hb d_Mo_report_102 rfl (lv_at hl 3 rfl) ?_
                      refine gz_iald hx hb hK hP 0 m16 rfl (by omega) (by omega) d_Mo_report_103 ?_
                      rw [show (mq 2) i = fl i 1 / 256 from (hRF i (by omega)).2.2.1]
                      have b_28 := (hF i).2
                      refine lv_aload_n hx hb d_Mo_report_104 rfl (lv_at hl 1 rfl) ?_
                      refine gm_get (C := R_Mo) (T := F_Mo) (n := 44) hx hb htl i_Mo hown hK hP eh rfl 22 (by decide) (htl _ k_765) (fun _ h => h) rfl d_Mo_report_105 ?_
                      refine lv_iload_n hx hb d_Mo_report_108 rfl (lv_at hl 3 rfl) ?_
                      refine gz_iald hx hb hK hP 0 m17 rfl (by omega) (by omega) d_Mo_report_109 ?_
                      rw [show (mq 3) i = fl i 1 % 256 from (hRF i (by omega)).2.2.2.1]
                      have b_29 := (hF i).2
                      refine lv_aload_n hx hb d_Mo_report_110 rfl (lv_at hl 1 rfl) ?_
                      refine gm_get (C := R_Mo) (T := F_Mo) (n := 44) hx hb htl i_Mo hown hK hP eh rfl 33 (by decide) (htl _ k_776) (fun _ h => h) rfl d_Mo_report_111 ?_
                      refine lv_iconst (v := nI 2) hx hb d_Mo_report_114 (by decide) ?_
                      refine gz_iald hx hb hK hP 0 m26 rfl (by omega) (by omega) d_Mo_report_115 ?_
                      rw [show hd 2 = ta / 256 from hhd.2.2.1]
                      refine lv_aload_n hx hb d_Mo_report_116 rfl (lv_at hl 1 rfl) ?_
                      refine gm_get (C := R_Mo) (T := F_Mo) (n := 44) hx hb htl i_Mo hown hK hP eh rfl 33 (by decide) (htl _ k_776) (fun _ h => h) rfl d_Mo_report_117 ?_
                      refine lv_iconst (v := nI 3) hx hb d_Mo_report_120 (by decide) ?_
                      refine gz_iald hx hb hK hP 0 m26 rfl (by omega) (by omega) d_Mo_report_121 ?_
                      rw [show hd 3 = ta % 256 from hhd.2.2.2]
                      refine gc_V (q := (R_Mo, F_Mo, 44)) (n := 5) [.int (nI 0), .int (nI (fl i 1 / 256)), .int (nI (fl i 1 % 256)), .int (nI (ta / 256)), .int (nI (ta % 256))] [] hx hb hml hown hts hK hN hX hP hS (c_Mo_emit (nI 0) eh m27) rfl eh k_975 k_977 ks_Mo_emit k_10 k_978 (by decide +kernel) ⟨by decide, by decide⟩ rfl hl.1 rfl (Nat.le_of_ble_eq_true rfl) d_Mo_report_122 ⟨by decide, by decide⟩ (fun r N1 M_30 H locs hw hP hS => ?_)
                      obtain ⟨rfl, hw⟩ := hw
                      obtain ⟨rfl, rfl⟩ := hw
                      have h_31 := gm_pass (k := (h + 27)) (y := .inl (ca 0, 4, .inl (iN (eUp em (fl i 1 / 256) (fl i 1 % 256) (ta / 256) (ta % 256))))) eh (gm_ne eh m27 (fun h => by cases h))
                      have h_32 := gm_pass (k := (h + 27)) (y := .inl (ca 0, 4, .inl (iN (eUp em (fl i 1 / 256) (fl i 1 % 256) (ta / 256) (ta % 256))))) m26 (by omega)
                      have h_33 := gm_pass (k := (h + 27)) (y := .inl (ca 0, 4, .inl (iN (eUp em (fl i 1 / 256) (fl i 1 % 256) (ta / 256) (ta % 256))))) m14 (gm_ne m14 m27 (fun h => by simp at h))
                      have h_34 := gm_pass (k := (h + 27)) (y := .inl (ca 0, 4, .inl (iN (eUp em (fl i 1 / 256) (fl i 1 % 256) (ta / 256) (ta % 256))))) m15 (gm_ne m15 m27 (fun h => by simp at h))
                      have h_35 := gm_pass (k := (h + 27)) (y := .inl (ca 0, 4, .inl (iN (eUp em (fl i 1 / 256) (fl i 1 % 256) (ta / 256) (ta % 256))))) m16 (gm_ne m16 m27 (fun h => by simp at h))
                      have h_36 := gm_pass (k := (h + 27)) (y := .inl (ca 0, 4, .inl (iN (eUp em (fl i 1 / 256) (fl i 1 % 256) (ta / 256) (ta % 256))))) m17 (gm_ne m17 m27 (fun h => by simp at h))
                      have h_37 := gm_pass (k := (h + 27)) (y := .inl (ca 0, 4, .inl (iN (eUp em (fl i 1 / 256) (fl i 1 % 256) (ta / 256) (ta % 256))))) m18 (gm_ne m18 m27 (fun h => by simp at h))
                      have h_38 := gm_pass (k := (h + 27)) (y := .inl (ca 0, 4, .inl (iN (eUp em (fl i 1 / 256) (fl i 1 % 256) (ta / 256) (ta % 256))))) m19 (gm_ne m19 m27 (fun h => by simp at h))
                      have h_39 := gm_pass (k := (h + 27)) (y := .inl (ca 0, 4, .inl (iN (eUp em (fl i 1 / 256) (fl i 1 % 256) (ta / 256) (ta % 256))))) m20 (gm_ne m20 m27 (fun h => by simp at h))
                      have h_40 := gm_pass (k := (h + 27)) (y := .inl (ca 0, 4, .inl (iN (eUp em (fl i 1 / 256) (fl i 1 % 256) (ta / 256) (ta % 256))))) m21 (gm_ne m21 m27 (fun h => by simp at h))
                      have h_41 := gm_pass (k := (h + 27)) (y := .inl (ca 0, 4, .inl (iN (eUp em (fl i 1 / 256) (fl i 1 % 256) (ta / 256) (ta % 256))))) m22 (gm_ne m22 m27 (fun h => by simp at h))
                      have h_42 := gm_pass (k := (h + 27)) (y := .inl (ca 0, 4, .inl (iN (eUp em (fl i 1 / 256) (fl i 1 % 256) (ta / 256) (ta % 256))))) m23 (gm_ne m23 m27 (fun h => by simp at h))
                      have h_43 := gm_up_self M (h + 27) (.inl (ca 0, 4, .inl (iN (eUp em (fl i 1 / 256) (fl i 1 % 256) (ta / 256) (ta % 256)))))
                      have hP : gm_P D cls A N (gm_up (gm_up M (h + 27) (.inl (ca 0, 4, .inl (iN (eUp em (fl i 1 / 256) (fl i 1 % 256) (ta / 256) (ta % 256)))))) h (moO h (nI le) bp (nI nr) (nI wh) (nI tl) (nI ne) (nI nf) (nI na) (nI 1) (nI tm) (nI cn) (nI cs) (nI bd) (nI (lt + 1)) (nI nt) fx fy)) H := hP
                      have h_44 := gm_pass (k := h) (y := moO h (nI le) bp (nI nr) (nI wh) (nI tl) (nI ne) (nI nf) (nI na) (nI 1) (nI tm) (nI cn) (nI cs) (nI bd) (nI (lt + 1)) (nI nt) fx fy) h_32 (gm_ne h_32 h_31 (fun h => by cases h))
                      have h_45 := gm_pass (k := h) (y := moO h (nI le) bp (nI nr) (nI wh) (nI tl) (nI ne) (nI nf) (nI na) (nI 1) (nI tm) (nI cn) (nI cs) (nI bd) (nI (lt + 1)) (nI nt) fx fy) h_33 (gm_ne h_33 h_31 (fun h => by cases h))
                      have h_46 := gm_pass (k := h) (y := moO h (nI le) bp (nI nr) (nI wh) (nI tl) (nI ne) (nI nf) (nI na) (nI 1) (nI tm) (nI cn) (nI cs) (nI bd) (nI (lt + 1)) (nI nt) fx fy) h_34 (gm_ne h_34 h_31 (fun h => by cases h))
                      have h_47 := gm_pass (k := h) (y := moO h (nI le) bp (nI nr) (nI wh) (nI tl) (nI ne) (nI nf) (nI na) (nI 1) (nI tm) (nI cn) (nI cs) (nI bd) (nI (lt + 1)) (nI nt) fx fy) h_35 (gm_ne h_35 h_31 (fun h => by cases h))
                      have h_48 := gm_pass (k := h) (y := moO h (nI le) bp (nI nr) (nI wh) (nI tl) (nI ne) (nI nf) (nI na) (nI 1) (nI tm) (nI cn) (nI cs) (nI bd) (nI (lt + 1)) (nI nt) fx fy) h_36 (gm_ne h_36 h_31 (fun h => by cases h))
                      have h_49 := gm_pass (k := h) (y := moO h (nI le) bp (nI nr) (nI wh) (nI tl) (nI ne) (nI nf) (nI na) (nI 1) (nI tm) (nI cn) (nI cs) (nI bd) (nI (lt + 1)) (nI nt) fx fy) h_37 (gm_ne h_37 h_31 (fun h => by cases h))
                      have h_50 := gm_pass (k := h) (y := moO h (nI le) bp (nI nr) (nI wh) (nI tl) (nI ne) (nI nf) (nI na) (nI 1) (nI tm) (nI cn) (nI cs) (nI bd) (nI (lt + 1)) (nI nt) fx fy) h_38 (gm_ne h_38 h_31 (fun h => by cases h))
                      have h_51 := gm_pass (k := h) (y := moO h (nI le) bp (nI nr) (nI wh) (nI tl) (nI ne) (nI nf) (nI na) (nI 1) (nI tm) (nI cn) (nI cs) (nI bd) (nI (lt + 1)) (nI nt) fx fy) h_39 (gm_ne h_39 h_31 (fun h => by cases h))
                      have h_52 := gm_pass (k := h) (y := moO h (nI le) bp (nI nr) (nI wh) (nI tl) (nI ne) (nI nf) (nI na) (nI 1) (nI tm) (nI cn) (nI cs) (nI bd) (nI (lt + 1)) (nI nt) fx fy) h_40 (gm_ne h_40 h_31 (fun h => by cases h))
                      have h_53 := gm_pass (k := h) (y := moO h (nI le) bp (nI nr) (nI wh) (nI tl) (nI ne) (nI nf) (nI na) (nI 1) (nI tm) (nI cn) (nI cs) (nI bd) (nI (lt + 1)) (nI nt) fx fy) h_41 (gm_ne h_41 h_31 (fun h => by cases h))
                      have h_54 := gm_pass (k := h) (y := moO h (nI le) bp (nI nr) (nI wh) (nI tl) (nI ne) (nI nf) (nI na) (nI 1) (nI tm) (nI cn) (nI cs) (nI bd) (nI (lt + 1)) (nI nt) fx fy) h_42 (gm_ne h_42 h_31 (fun h => by cases h))
                      have h_55 := gm_pass (k := h) (y := moO h (nI le) bp (nI nr) (nI wh) (nI tl) (nI ne) (nI nf) (nI na) (nI 1) (nI tm) (nI cn) (nI cs) (nI bd) (nI (lt + 1)) (nI nt) fx fy) h_43 (gm_ne h_43 h_31 (fun h => by cases h))
                      have h_56 := gm_up_self (gm_up M (h + 27) (.inl (ca 0, 4, .inl (iN (eUp em (fl i 1 / 256) (fl i 1 % 256) (ta / 256) (ta % 256)))))) h (moO h (nI le) bp (nI nr) (nI wh) (nI tl) (nI ne) (nI nf) (nI na) (nI 1) (nI tm) (nI cn) (nI cs) (nI bd) (nI (lt + 1)) (nI nt) fx fy)
                      refine W.eq (g2 := F0 m 125 ls [.int (nI 0)]) rfl ?_
                      rw [← hQ]
                      exact gc_iret hx hb hr hlk hP hS d_Mo_report_125 ⟨rfl, Or.inr ⟨pr0, (nI 0), (eUp em (fl i 1 / 256) (fl i 1 % 256) (ta / 256) (ta % 256)), (lt + 1), nt, 1, ⟨rfl, hpr0⟩, rep_some hT (k := i) (by omega) (by omega), (Or.inl ⟨by decide, rfl, rfl, rfl⟩), h_56, h_55, (fun z q0 q1 => (gm_up_ne _ _ q0).trans ((gm_up_ne _ _ q1).trans (rfl))), rfl⟩⟩
      exact loop_11 (_ + 1) 0 ls _ _ (Nat.zero_le _) (fun z hz => absurd hz (Nat.not_lt_zero _)) (Nat.lt_succ_self _) hP hS (lv_sub hl [1, 2, 0] rfl)
    · skip
      refine W.eq (g2 := F0 m 4 ls [.int (nI 0)]) rfl ?_
      refine lv_if_ne (tgt := 9) hx hb d_Mo_report_4 (by decide) (fun q => absurd q (by decide)) (fun _ => ?_)
      exact absurd ⟨pr0, by omega, rfl⟩ c_3
  · skip
    refine lv_iload_n hx hb d_Mo_report_0 rfl (lv_at hl 1 rfl) ?_
    refine gc_S (n := 1) [.int y] [] hx hb hml hown hts hK hN hX hP hS (c_Mo_isProtocol y) k_923 k_924 k_10 k_925 (by decide +kernel) ⟨by decide, by decide⟩ rfl hl.1 rfl (Nat.le_of_ble_eq_true rfl) d_Mo_report_1 ⟨by decide, by decide⟩ (fun r N1 M_57 H locs hw hP hS => ?_)
    obtain ⟨rfl, hw⟩ := hw
    rcases hw with ⟨c_58, rfl, rfl⟩ | ⟨c_59, rfl, rfl⟩
    · skip
      refine W.eq (g2 := F0 m 4 ls [.int (nI 1)]) rfl ?_
      refine lv_if_ne (tgt := 9) hx hb d_Mo_report_4 (by decide) (fun _ => ?_) (fun q => absurd q (by decide))
      exact absurd c_58 hno
    · skip
      refine W.eq (g2 := F0 m 4 ls [.int (nI 0)]) rfl ?_
      refine lv_if_ne (tgt := 9) hx hb d_Mo_report_4 (by decide) (fun q => absurd q (by decide)) (fun _ => ?_)
      refine lv_iconst (v := (-1)) hx hb d_Mo_report_7 (by decide) ?_
      rw [← hQ]
      exact gc_iret hx hb hr hlk hP hS d_Mo_report_8 ⟨rfl, Or.inl ⟨hno, rfl, rfl⟩⟩
set_option maxHeartbeats 4000000 in
set_option maxRecDepth 100000 in
theorem c_Mo_otherMappings {h le nr tl ne nf na an tm cn cs bd lt nt wh : Nat} {bp fx fy : Int32} {me : Nat → Nat → Nat} {mq : Nat → Nat → Nat} {pp po pi : Nat → Nat} {fl : Nat → Nat → Nat} (eh : M h = some (moO h (nI le) bp (nI nr) (nI wh) (nI tl) (nI ne) (nI nf) (nI na) (nI an) (nI tm) (nI cn) (nI cs) (nI bd) (nI lt) (nI nt) fx fy)) (m10 : M (h + 10) = some (.inl (ca 0, 5, .inl (iN (me 0))))) (m11 : M (h + 11) = some (.inl (ca 0, 5, .inl (iN (me 1))))) (m12 : M (h + 12) = some (.inl (ca 0, 5, .inl (iN (me 2))))) (m13 : M (h + 13) = some (.inl (ca 0, 5, .inl (iN (me 3))))) (m14 : M (h + 14) = some (.inl (ca 0, 17, .inl (iN (mq 0))))) (m15 : M (h + 15) = some (.inl (ca 0, 17, .inl (iN (mq 1))))) (m16 : M (h + 16) = some (.inl (ca 0, 17, .inl (iN (mq 2))))) (m17 : M (h + 17) = some (.inl (ca 0, 17, .inl (iN (mq 3))))) (m18 : M (h + 18) = some (.inl (ca 0, 17, .inl (iN (mq 4))))) (m19 : M (h + 19) = some (.inl (ca 0, 17, .inl (iN (mq 5))))) (m20 : M (h + 20) = some (.inl (ca 0, 17, .inl (iN (mq 6))))) (m21 : M (h + 21) = some (.inl (ca 0, 17, .inl (iN (mq 7))))) (m22 : M (h + 22) = some (.inl (ca 0, 17, .inl (iN (mq 8))))) (m23 : M (h + 23) = some (.inl (ca 0, 17, .inl (iN (mq 9))))) (hRE : relE ne pp po pi me) (hne : ne ≤ 4) (hpp : ∀ k, pp k < 65536) (hpo : ∀ k, po k < 65536) (hpi : ∀ k, pi k < 65536) (hRF : relF nf fl mq) (hnf : nf ≤ 16) (hF : okF fl) (hpo9 : ∀ k, k < ne → po k ≤ 99) : gC l D ca A G y_Mo_otherMappings (.code y_Mo_otherMappings b_Mo_otherMappings 4 (some .int)) ({ frames := 1, cells := 0, slots := 0, locals := 23 }) N M [.ref h] gm_i (fun (r : Int32) (N1 : Nat) (M1 : gm_M) => N = N1 ∧ ∃ (u1 : Int32) (u2 : Int32), M1 h = some (moO h (nI le) bp (nI nr) (nI wh) (nI tl) (nI ne) (nI nf) (nI na) (nI an) (nI tm) (nI cn) (nI cs) (nI bd) (nI lt) (nI nt) u1 u2) ∧ (∀ z, z ≠ h → M1 z = M z) ∧ nI (cU fl nf 36) = r) := by
  refine gm_body (by decide) (Nat.le_of_ble_eq_true rfl) (fun p e s m below meth c ls hx hb hr hts hown hlk hml hnm hP hK hN hX hS hl => ?_)
  have htl : ∀ w ∈ LW, w.before _ s = true := fun w h => hts w (List.mem_cons_of_mem _ h)
  have hown : s.vm.findClass "PacketGateModel" = some m.cls := hown
  have hl : lv_has ls 4 [(0, .ref h)] := hl
  generalize hQ : MQ below _ _ s _ _ A = Q
  refine lv_iconst (v := nI 0) hx hb d_Mo_otherMappings_0 (by decide) ?_
  refine lv_istore_n (lv' := [(1, .int (nI 0)), (0, .ref h)]) hx hb d_Mo_otherMappings_1 rfl hl (by decide) rfl (fun ls hl => ?_)
  refine lv_iconst (v := nI 0) hx hb d_Mo_otherMappings_2 (by decide) ?_
  refine lv_istore_n (lv' := [(2, .int (nI 0)), (1, .int (nI 0)), (0, .ref h)]) hx hb d_Mo_otherMappings_3 rfl hl (by decide) rfl (fun ls hl => ?_)
  have loop_4 : ∀ (fu : Nat) (p0 : Nat) (c0 : Nat) (w1 : Int32) (w2 : Int32) (Mv : gm_M) (ls : Array Slot) (H : Heap) (locs : List Loc), (Mv h = some (moO h (nI le) bp (nI nr) (nI wh) (nI tl) (nI ne) (nI nf) (nI na) (nI an) (nI tm) (nI cn) (nI cs) (nI bd) (nI lt) (nI nt) w1 w2)) → (Mv (h + 10) = some (.inl (ca 0, 5, .inl (iN (me 0))))) → (Mv (h + 11) = some (.inl (ca 0, 5, .inl (iN (me 1))))) → (Mv (h + 12) = some (.inl (ca 0, 5, .inl (iN (me 2))))) → (Mv (h + 13) = some (.inl (ca 0, 5, .inl (iN (me 3))))) → (Mv (h + 14) = some (.inl (ca 0, 17, .inl (iN (mq 0))))) → (Mv (h + 15) = some (.inl (ca 0, 17, .inl (iN (mq 1))))) → (Mv (h + 16) = some (.inl (ca 0, 17, .inl (iN (mq 2))))) → (Mv (h + 17) = some (.inl (ca 0, 17, .inl (iN (mq 3))))) → (Mv (h + 18) = some (.inl (ca 0, 17, .inl (iN (mq 4))))) → (Mv (h + 19) = some (.inl (ca 0, 17, .inl (iN (mq 5))))) → (Mv (h + 20) = some (.inl (ca 0, 17, .inl (iN (mq 6))))) → (Mv (h + 21) = some (.inl (ca 0, 17, .inl (iN (mq 7))))) → (Mv (h + 22) = some (.inl (ca 0, 17, .inl (iN (mq 8))))) → (Mv (h + 23) = some (.inl (ca 0, 17, .inl (iN (mq 9))))) → (p0 ≤ 3) → (cU fl nf (p0 * 12) = c0) → (c0 ≤ p0 * 12) → (∀ z, z ≠ h → Mv z = M z) → (3 - p0) < fu → gm_P D cls A N Mv H → va_S A s.heap H locs → lv_has ls 4 [(0, .ref h), (1, .int (nI c0)), (2, .int (nI p0))] → W p l e ({ frames := 1, cells := 0, slots := 0, locals := 23 }) s m ([.ref h] : List Value).toArray below meth c H locs (0) (0) Q (F0 m 4 ls []) := by
    intro fu
    induction fu with
    | zero => intro p0 c0 w1 w2 Mv ls H locs ehv m10v m11v m12v m13v m14v m15v m16v m17v m18v m19v m20v m21v m22v m23v hp hc0 hcl hfrv hk; exact absurd hk (Nat.not_lt_zero _)
    | succ fu ih_4 =>
      intro p0 c0 w1 w2 Mv ls H locs ehv m10v m11v m12v m13v m14v m15v m16v m17v m18v m19v m20v m21v m22v m23v hp hc0 hcl hfrv hk hP hS hl
      refine lv_iload_n hx hb d_Mo_otherMappings_4 rfl (lv_at hl 2 rfl) ?_
      refine lv_iconst (v := nI 3) hx hb d_Mo_otherMappings_5 (by decide) ?_
      refine ln_ge (tgt := 42) hx hb d_Mo_otherMappings_6 (by decide) (by omega) (by omega) (fun c_1 => ?_) (fun c_1 => ?_)
      · skip
        refine lv_iload_n hx hb d_Mo_otherMappings_42 rfl (lv_at hl 1 rfl) ?_
        rw [← hQ]
        exact gc_iret hx hb hr hlk hP hS d_Mo_otherMappings_43 ⟨rfl, w1, w2, ehv, (fun z q0 => (hfrv z q0).trans (rfl)), congrArg nI (by rw [← hc0, show p0 = 3 from (by omega)])⟩
      · skip
        refine lv_bipush (v := nI 100) hx hb d_Mo_otherMappings_9 (by decide) ?_
        refine lv_istore_n (lv' := [(3, .int (nI 100)), (0, .ref h), (1, .int (nI c0)), (2, .int (nI p0))]) hx hb d_Mo_otherMappings_11 rfl hl (by decide) rfl (fun ls hl => ?_)
        have loop_12 : ∀ (fu : Nat) (q0 : Nat) (c1 : Nat) (x1 : Int32) (x2 : Int32) (Mv : gm_M) (ls : Array Slot) (H : Heap) (locs : List Loc), (Mv h = some (moO h (nI le) bp (nI nr) (nI wh) (nI tl) (nI ne) (nI nf) (nI na) (nI an) (nI tm) (nI cn) (nI cs) (nI bd) (nI lt) (nI nt) x1 x2)) → (Mv (h + 10) = some (.inl (ca 0, 5, .inl (iN (me 0))))) → (Mv (h + 11) = some (.inl (ca 0, 5, .inl (iN (me 1))))) → (Mv (h + 12) = some (.inl (ca 0, 5, .inl (iN (me 2))))) → (Mv (h + 13) = some (.inl (ca 0, 5, .inl (iN (me 3))))) → (Mv (h + 14) = some (.inl (ca 0, 17, .inl (iN (mq 0))))) → (Mv (h + 15) = some (.inl (ca 0, 17, .inl (iN (mq 1))))) → (Mv (h + 16) = some (.inl (ca 0, 17, .inl (iN (mq 2))))) → (Mv (h + 17) = some (.inl (ca 0, 17, .inl (iN (mq 3))))) → (Mv (h + 18) = some (.inl (ca 0, 17, .inl (iN (mq 4))))) → (Mv (h + 19) = some (.inl (ca 0, 17, .inl (iN (mq 5))))) → (Mv (h + 20) = some (.inl (ca 0, 17, .inl (iN (mq 6))))) → (Mv (h + 21) = some (.inl (ca 0, 17, .inl (iN (mq 7))))) → (Mv (h + 22) = some (.inl (ca 0, 17, .inl (iN (mq 8))))) → (Mv (h + 23) = some (.inl (ca 0, 17, .inl (iN (mq 9))))) → (100 ≤ q0 ∧ q0 ≤ 112) → (cU fl nf (p0 * 12 + (q0 - 100)) = c1) → (c1 ≤ p0 * 12 + (q0 - 100)) → (∀ z, z ≠ h → Mv z = M z) → (112 - q0) < fu → gm_P D cls A N Mv H → va_S A s.heap H locs → lv_has ls 4 [(0, .ref h), (1, .int (nI c1)), (2, .int (nI p0)), (3, .int (nI q0))] → W p l e ({ frames := 1, cells := 0, slots := 0, locals := 23 }) s m ([.ref h] : List Value).toArray below meth c H locs (0) (0) Q (F0 m 12 ls []) := by
          intro fu
          induction fu with
          | zero => intro q0 c1 x1 x2 Mv ls H locs ehw m10w m11w m12w m13w m14w m15w m16w m17w m18w m19w m20w m21w m22w m23w hq hc1 hcl1 hfrv hk; exact absurd hk (Nat.not_lt_zero _)
          | succ fu ih_12 =>
            intro q0 c1 x1 x2 Mv ls H locs ehw m10w m11w m12w m13w m14w m15w m16w m17w m18w m19w m20w m21w m22w m23w hq hc1 hcl1 hfrv hk hP hS hl
            refine lv_iload_n hx hb d_Mo_otherMappings_12 rfl (lv_at hl 3 rfl) ?_
            refine lv_bipush (v := nI 112) hx hb d_Mo_otherMappings_13 (by decide) ?_
            refine ln_ge (tgt := 36) hx hb d_Mo_otherMappings_15 (by decide) (by omega) (by omega) (fun c_2 => ?_) (fun c_2 => ?_)
            · skip
              refine lv_iinc (v := nI (p0 + 1)) (lv' := [(2, .int (nI (p0 + 1))), (0, .ref h), (1, .int (nI c1)), (3, .int (nI q0))]) hx hb d_Mo_otherMappings_36 hl (k := 2) rfl (nI_1 p0) (by decide) rfl (fun ls hl => ?_)
              refine lv_goto (tgt := 4) hx hb d_Mo_otherMappings_39 (by decide) ?_
              exact ih_4 (p0 + 1) c1 x1 x2 _ ls _ _ ehw m10w m11w m12w m13w m14w m15w m16w m17w m18w m19w m20w m21w m22w m23w (by omega) (by rw [show (p0 + 1) * 12 = p0 * 12 + (q0 - 100) from (by omega)]; exact hc1) (by omega) (fun z q9 => (hfrv z q9).trans (rfl)) (by omega) hP hS (lv_sub hl [1, 2, 0] rfl)
            · skip
              refine lv_aload_n hx hb d_Mo_otherMappings_18 rfl (lv_at hl 0 rfl) ?_
              refine lv_iload_n hx hb d_Mo_otherMappings_19 rfl (lv_at hl 2 rfl) ?_
              refine lv_iload_n hx hb d_Mo_otherMappings_20 rfl (lv_at hl 3 rfl) ?_
              refine gc_V (q := (R_Mo, F_Mo, 44)) (n := 2) [.int (nI p0), .int (nI q0)] [] hx hb hml hown hts hK hN hX hP hS (c_Mo_mapped (pp := pp) (po := po) (pi := pi) (fl := fl) ehw m10w m11w m12w m13w m14w m15w m16w m17w m18w m19w m20w m21w m22w m23w hRE (by omega) hpp hpo hpi hRF (by omega) hF (by omega) (by omega)) rfl ehw k_932 k_934 ks_Mo_mapped k_10 k_935 (by decide +kernel) ⟨by decide, by decide⟩ rfl hl.1 rfl (Nat.le_of_ble_eq_true rfl) d_Mo_otherMappings_21 ⟨by decide, by decide⟩ (fun r N1 M_3 H locs hw hP hS => ?_)
              obtain ⟨rfl, hw⟩ := hw
              rcases hw with ⟨vv_4, c_5, c_6, rfl, rfl⟩ | ⟨c_7, rfl, rfl⟩
              · skip
                have hP : gm_P D cls A N (gm_up Mv h (moO h (nI le) bp (nI nr) (nI wh) (nI tl) (nI ne) (nI nf) (nI na) (nI an) (nI tm) (nI cn) (nI cs) (nI bd) (nI lt) (nI nt) (nI (vv_4 / 256)) (nI (vv_4 % 256)))) H := hP
                have h_8 := gm_pass (k := h) (y := moO h (nI le) bp (nI nr) (nI wh) (nI tl) (nI ne) (nI nf) (nI na) (nI an) (nI tm) (nI cn) (nI cs) (nI bd) (nI lt) (nI nt) (nI (vv_4 / 256)) (nI (vv_4 % 256))) m10w (gm_ne m10w ehw (fun h => by cases h))
                have h_9 := gm_pass (k := h) (y := moO h (nI le) bp (nI nr) (nI wh) (nI tl) (nI ne) (nI nf) (nI na) (nI an) (nI tm) (nI cn) (nI cs) (nI bd) (nI lt) (nI nt) (nI (vv_4 / 256)) (nI (vv_4 % 256))) m11w (gm_ne m11w ehw (fun h => by cases h))
                have h_10 := gm_pass (k := h) (y := moO h (nI le) bp (nI nr) (nI wh) (nI tl) (nI ne) (nI nf) (nI na) (nI an) (nI tm) (nI cn) (nI cs) (nI bd) (nI lt) (nI nt) (nI (vv_4 / 256)) (nI (vv_4 % 256))) m12w (gm_ne m12w ehw (fun h => by cases h))
                have h_11 := gm_pass (k := h) (y := moO h (nI le) bp (nI nr) (nI wh) (nI tl) (nI ne) (nI nf) (nI na) (nI an) (nI tm) (nI cn) (nI cs) (nI bd) (nI lt) (nI nt) (nI (vv_4 / 256)) (nI (vv_4 % 256))) m13w (gm_ne m13w ehw (fun h => by cases h))
                have h_12 := gm_pass (k := h) (y := moO h (nI le) bp (nI nr) (nI wh) (nI tl) (nI ne) (nI nf) (nI na) (nI an) (nI tm) (nI cn) (nI cs) (nI bd) (nI lt) (nI nt) (nI (vv_4 / 256)) (nI (vv_4 % 256))) m14w (gm_ne m14w ehw (fun h => by cases h))
                have h_13 := gm_pass (k := h) (y := moO h (nI le) bp (nI nr) (nI wh) (nI tl) (nI ne) (nI nf) (nI na) (nI an) (nI tm) (nI cn) (nI cs) (nI bd) (nI lt) (nI nt) (nI (vv_4 / 256)) (nI (vv_4 % 256))) m15w (gm_ne m15w ehw (fun h => by cases h))
                have h_14 := gm_pass (k := h) (y := moO h (nI le) bp (nI nr) (nI wh) (nI tl) (nI ne) (nI nf) (nI na) (nI an) (nI tm) (nI cn) (nI cs) (nI bd) (nI lt) (nI nt) (nI (vv_4 / 256)) (nI (vv_4 % 256))) m16w (gm_ne m16w ehw (fun h => by cases h))
                have h_15 := gm_pass (k := h) (y := moO h (nI le) bp (nI nr) (nI wh) (nI tl) (nI ne) (nI nf) (nI na) (nI an) (nI tm) (nI cn) (nI cs) (nI bd) (nI lt) (nI nt) (nI (vv_4 / 256)) (nI (vv_4 % 256))) m17w (gm_ne m17w ehw (fun h => by cases h))
                have h_16 := gm_pass (k := h) (y := moO h (nI le) bp (nI nr) (nI wh) (nI tl) (nI ne) (nI nf) (nI na) (nI an) (nI tm) (nI cn) (nI cs) (nI bd) (nI lt) (nI nt) (nI (vv_4 / 256)) (nI (vv_4 % 256))) m18w (gm_ne m18w ehw (fun h => by cases h))
                have h_17 := gm_pass (k := h) (y := moO h (nI le) bp (nI nr) (nI wh) (nI tl) (nI ne) (nI nf) (nI na) (nI an) (nI tm) (nI cn) (nI cs) (nI bd) (nI lt) (nI nt) (nI (vv_4 / 256)) (nI (vv_4 % 256))) m19w (gm_ne m19w ehw (fun h => by cases h))
                have h_18 := gm_pass (k := h) (y := moO h (nI le) bp (nI nr) (nI wh) (nI tl) (nI ne) (nI nf) (nI na) (nI an) (nI tm) (nI cn) (nI cs) (nI bd) (nI lt) (nI nt) (nI (vv_4 / 256)) (nI (vv_4 % 256))) m20w (gm_ne m20w ehw (fun h => by cases h))
                have h_19 := gm_pass (k := h) (y := moO h (nI le) bp (nI nr) (nI wh) (nI tl) (nI ne) (nI nf) (nI na) (nI an) (nI tm) (nI cn) (nI cs) (nI bd) (nI lt) (nI nt) (nI (vv_4 / 256)) (nI (vv_4 % 256))) m21w (gm_ne m21w ehw (fun h => by cases h))
                have h_20 := gm_pass (k := h) (y := moO h (nI le) bp (nI nr) (nI wh) (nI tl) (nI ne) (nI nf) (nI na) (nI an) (nI tm) (nI cn) (nI cs) (nI bd) (nI lt) (nI nt) (nI (vv_4 / 256)) (nI (vv_4 % 256))) m22w (gm_ne m22w ehw (fun h => by cases h))
                have h_21 := gm_pass (k := h) (y := moO h (nI le) bp (nI nr) (nI wh) (nI tl) (nI ne) (nI nf) (nI na) (nI an) (nI tm) (nI cn) (nI cs) (nI bd) (nI lt) (nI nt) (nI (vv_4 / 256)) (nI (vv_4 % 256))) m23w (gm_ne m23w ehw (fun h => by cases h))
                have h_22 := gm_up_self Mv h (moO h (nI le) bp (nI nr) (nI wh) (nI tl) (nI ne) (nI nf) (nI na) (nI an) (nI tm) (nI cn) (nI cs) (nI bd) (nI lt) (nI nt) (nI (vv_4 / 256)) (nI (vv_4 % 256)))
                refine W.eq (g2 := F0 m 24 ls [.int (nI 1)]) rfl ?_
                refine lv_if_eq (tgt := 30) hx hb d_Mo_otherMappings_24 (by decide) (fun q => absurd q (by decide)) (fun _ => ?_)
                refine lv_iinc (v := nI (c1 + 1)) (lv' := [(1, .int (nI (c1 + 1))), (0, .ref h), (2, .int (nI p0)), (3, .int (nI q0))]) hx hb d_Mo_otherMappings_27 hl (k := 1) rfl (nI_1 c1) (by decide) rfl (fun ls hl => ?_)
                refine lv_iinc (v := nI (q0 + 1)) (lv' := [(3, .int (nI (q0 + 1))), (1, .int (nI (c1 + 1))), (0, .ref h), (2, .int (nI p0))]) hx hb d_Mo_otherMappings_30 hl (k := 3) rfl (nI_1 q0) (by decide) rfl (fun ls hl => ?_)
                refine lv_goto (tgt := 12) hx hb d_Mo_otherMappings_33 (by decide) ?_
                exact ih_12 (q0 + 1) (c1 + 1) (nI (vv_4 / 256)) (nI (vv_4 % 256)) _ ls _ _ h_22 h_8 h_9 h_10 h_11 h_12 h_13 h_14 h_15 h_16 h_17 h_18 h_19 h_20 h_21 (by omega) (by rw [show p0 * 12 + (q0 + 1 - 100) = p0 * 12 + (q0 - 100) + 1 from (by omega), cU_y (by rw [show (p0 * 12 + (q0 - 100)) / 12 = p0 from (by omega), show 100 + (p0 * 12 + (q0 - 100)) % 12 = q0 from (by omega)]; exact used_mp c_5 hpo9 (by omega)), hc1]) (by omega) (fun z q9 => (gm_up_ne _ _ q9).trans ((hfrv z q9).trans (rfl))) (by omega) hP hS (lv_sub hl [2, 1, 3, 0] rfl)
              · skip
                refine W.eq (g2 := F0 m 24 ls [.int (nI 0)]) rfl ?_
                refine lv_if_eq (tgt := 30) hx hb d_Mo_otherMappings_24 (by decide) (fun _ => ?_) (fun q => absurd q (by decide))
                refine lv_iinc (v := nI (q0 + 1)) (lv' := [(3, .int (nI (q0 + 1))), (0, .ref h), (1, .int (nI c1)), (2, .int (nI p0))]) hx hb d_Mo_otherMappings_30 hl (k := 3) rfl (nI_1 q0) (by decide) rfl (fun ls hl => ?_)
                refine lv_goto (tgt := 12) hx hb d_Mo_otherMappings_33 (by decide) ?_
                exact ih_12 (q0 + 1) c1 x1 x2 _ ls _ _ ehw m10w m11w m12w m13w m14w m15w m16w m17w m18w m19w m20w m21w m22w m23w (by omega) (by rw [show p0 * 12 + (q0 + 1 - 100) = p0 * 12 + (q0 - 100) + 1 from (by omega), cU_n (by rw [show (p0 * 12 + (q0 - 100)) / 12 = p0 from (by omega), show 100 + (p0 * 12 + (q0 - 100)) % 12 = q0 from (by omega)]; exact nused_mp c_7), hc1]) (by omega) (fun z q9 => (hfrv z q9).trans (rfl)) (by omega) hP hS (lv_sub hl [1, 2, 3, 0] rfl)
        exact loop_12 (_ + 1) 100 c0 w1 w2 _ ls _ locs ehv m10v m11v m12v m13v m14v m15v m16v m17v m18v m19v m20v m21v m22v m23v (by omega) hc0 (by omega) hfrv (Nat.lt_succ_self _) hP hS (lv_sub hl [1, 2, 3, 0] rfl)
  exact loop_4 (_ + 1) 0 0 fx fy _ ls _ _ eh m10 m11 m12 m13 m14 m15 m16 m17 m18 m19 m20 m21 m22 m23 (by omega) rfl (by omega) (fun z _ => rfl) (Nat.lt_succ_self _) hP hS (lv_sub hl [2, 1, 0] rfl)
set_option maxHeartbeats 4000000 in
set_option maxRecDepth 100000 in
theorem c_Mo_count (y : Int32) {h le nr tl ne nf na an tm cn cs bd lt nt wh : Nat} {bp fx fy : Int32} {aA : Nat → Nat} {aS : Nat → Nat} {me : Nat → Nat → Nat} {mq : Nat → Nat → Nat} {pp po pi : Nat → Nat} {fl : Nat → Nat → Nat} (eh : M h = some (moO h (nI le) bp (nI nr) (nI wh) (nI tl) (nI ne) (nI nf) (nI na) (nI an) (nI tm) (nI cn) (nI cs) (nI bd) (nI lt) (nI nt) fx fy)) (m24 : M (h + 24) = some (.inl (ca 0, 512, .inl (iN aA)))) (m25 : M (h + 25) = some (.inl (ca 0, 512, .inl (iN aS)))) (m10 : M (h + 10) = some (.inl (ca 0, 5, .inl (iN (me 0))))) (m11 : M (h + 11) = some (.inl (ca 0, 5, .inl (iN (me 1))))) (m12 : M (h + 12) = some (.inl (ca 0, 5, .inl (iN (me 2))))) (m13 : M (h + 13) = some (.inl (ca 0, 5, .inl (iN (me 3))))) (m14 : M (h + 14) = some (.inl (ca 0, 17, .inl (iN (mq 0))))) (m15 : M (h + 15) = some (.inl (ca 0, 17, .inl (iN (mq 1))))) (m16 : M (h + 16) = some (.inl (ca 0, 17, .inl (iN (mq 2))))) (m17 : M (h + 17) = some (.inl (ca 0, 17, .inl (iN (mq 3))))) (m18 : M (h + 18) = some (.inl (ca 0, 17, .inl (iN (mq 4))))) (m19 : M (h + 19) = some (.inl (ca 0, 17, .inl (iN (mq 5))))) (m20 : M (h + 20) = some (.inl (ca 0, 17, .inl (iN (mq 6))))) (m21 : M (h + 21) = some (.inl (ca 0, 17, .inl (iN (mq 7))))) (m22 : M (h + 22) = some (.inl (ca 0, 17, .inl (iN (mq 8))))) (m23 : M (h + 23) = some (.inl (ca 0, 17, .inl (iN (mq 9))))) (hRE : relE ne pp po pi me) (hne : ne ≤ 4) (hpp : ∀ k, pp k < 65536) (hpo : ∀ k, po k < 65536) (hpi : ∀ k, pi k < 65536) (hRF : relF nf fl mq) (hnf : nf ≤ 16) (hF : okF fl) (hpo9 : ∀ k, k < ne → po k ≤ 99) (hacc : ∀ k, k < na → aA k < 600000 ∧ aS k ≤ 9999) (hna : na ≤ 512) (hcn : cn < 600000) : gC l D ca A G y_Mo_count (.code y_Mo_count b_Mo_count 2 (some .int)) ({ frames := 2, cells := 0, slots := 0, locals := 46 }) N M [.ref h, .int y] gm_i (fun (r : Int32) (N1 : Nat) (M1 : gm_M) => N = N1 ∧ (((¬ ∃ k : Nat, k < 12 ∧ y = nI k) ∧ M = M1 ∧ (-1) = r) ∨ (∃ (k : Nat) (u1 : Int32) (u2 : Int32), (k < 12 ∧ y = nI k) ∧ M1 h = some (moO h (nI le) bp (nI nr) (nI wh) (nI tl) (nI ne) (nI nf) (nI na) (nI an) (nI tm) (nI cn) (nI cs) (nI bd) (nI lt) (nI nt) u1 u2) ∧ (∀ z, z ≠ h → M1 z = M z) ∧ ([nI nr, nI nf, nI ne, nI (cU fl nf 36), nI lt, nI nt, nI tm, nI cn, nI cs, nI (topA aA aS cn na), nI le, bp] : List Int32).getD k 0 = r))) := by
  refine gm_body (by decide) (Nat.le_of_ble_eq_true rfl) (fun p e s m below meth c ls hx hb hr hts hown hlk hml hnm hP hK hN hX hS hl => ?_)
  have htl : ∀ w ∈ LW, w.before _ s = true := fun w h => hts w (List.mem_cons_of_mem _ h)
  have hown : s.vm.findClass "PacketGateModel" = some m.cls := hown
  have hl : lv_has ls 2 [(0, .ref h), (1, .int y)] := hl
  generalize hQ : MQ below _ _ s _ _ A = Q
  rcases Classical.em (∃ k : Nat, k < 12 ∧ y = nI k) with ⟨k, hk0, rfl⟩ | hno
  · skip
    refine lv_iload_n hx hb d_Mo_count_0 rfl (lv_at hl 1 rfl) ?_
    refine lz_lt (tgt := 10) hx hb d_Mo_count_1 (by decide) (by omega) ?_
    refine lv_iload_n hx hb d_Mo_count_4 rfl (lv_at hl 1 rfl) ?_
    refine lv_bipush (v := nI 11) hx hb d_Mo_count_5 (by decide) ?_
    refine ln_le (tgt := 12) hx hb d_Mo_count_7 (by decide) (by omega) (by omega) (fun c_2 => ?_) (fun c_2 => ?_)
    · skip
      refine lv_iload_n hx hb d_Mo_count_12 rfl (lv_at hl 1 rfl) ?_
      refine lv_iconst (v := nI 3) hx hb d_Mo_count_13 (by decide) ?_
      refine ln_ge (tgt := 45) hx hb d_Mo_count_14 (by decide) (by omega) (by omega) (fun c_3 => ?_) (fun c_3 => ?_)
      · skip
        refine lv_iload_n hx hb d_Mo_count_45 rfl (lv_at hl 1 rfl) ?_
        refine lv_bipush (v := nI 6) hx hb d_Mo_count_46 (by decide) ?_
        refine ln_ge (tgt := 80) hx hb d_Mo_count_48 (by decide) (by omega) (by omega) (fun c_4 => ?_) (fun c_4 => ?_)
        · skip
          refine lv_iload_n hx hb d_Mo_count_80 rfl (lv_at hl 1 rfl) ?_
          refine lv_bipush (v := nI 9) hx hb d_Mo_count_81 (by decide) ?_
          refine ln_ge (tgt := 117) hx hb d_Mo_count_83 (by decide) (by omega) (by omega) (fun c_5 => ?_) (fun c_5 => ?_)
          · skip
            refine lv_iload_n hx hb d_Mo_count_117 rfl (lv_at hl 1 rfl) ?_
            refine lv_bipush (v := nI 9) hx hb d_Mo_count_118 (by decide) ?_
            refine ln_ne (tgt := 134) hx hb d_Mo_count_120 (by decide) (by omega) (by omega) (fun c_6 => ?_) (fun c_6 => ?_)
            · skip
              refine lv_iload_n hx hb d_Mo_count_134 rfl (lv_at hl 1 rfl) ?_
              refine lv_bipush (v := nI 10) hx hb d_Mo_count_135 (by decide) ?_
              refine ln_ne (tgt := 147) hx hb d_Mo_count_137 (by decide) (by omega) (by omega) (fun c_7 => ?_) (fun c_7 => ?_)
              · skip
                refine lv_aload_n hx hb d_Mo_count_147 rfl (lv_at hl 0 rfl) ?_
                refine gm_get (C := R_Mo) (T := F_Mo) (n := 44) hx hb htl i_Mo hown hK hP eh rfl 2 (by decide) (htl _ k_745) (fun _ h => h) rfl d_Mo_count_148 ?_
                rw [← hQ]
                exact gc_iret hx hb hr hlk hP hS d_Mo_count_151 ⟨rfl, Or.inr ⟨k, fx, fy, ⟨hk0, rfl⟩, eh, (fun z q0 => rfl), (by obtain rfl : k = 11 := (by omega); rfl)⟩⟩
              · skip
                refine lv_aload_n hx hb d_Mo_count_140 rfl (lv_at hl 0 rfl) ?_
                refine gm_get (C := R_Mo) (T := F_Mo) (n := 44) hx hb htl i_Mo hown hK hP eh rfl 1 (by decide) (htl _ k_744) (fun _ h => h) rfl d_Mo_count_141 ?_
                refine lv_goto (tgt := 151) hx hb d_Mo_count_144 (by decide) ?_
                rw [← hQ]
                exact gc_iret hx hb hr hlk hP hS d_Mo_count_151 ⟨rfl, Or.inr ⟨k, fx, fy, ⟨hk0, rfl⟩, eh, (fun z q0 => rfl), (by obtain rfl : k = 10 := (by omega); rfl)⟩⟩
            · skip
              refine lv_aload_n hx hb d_Mo_count_123 rfl (lv_at hl 0 rfl) ?_
              refine lv_aload_n hx hb d_Mo_count_124 rfl (lv_at hl 0 rfl) ?_
              refine gm_get (C := R_Mo) (T := F_Mo) (n := 44) hx hb htl i_Mo hown hK hP eh rfl 37 (by decide) (htl _ k_780) (fun _ h => h) rfl d_Mo_count_125 ?_
              refine gc_V (q := (R_Mo, F_Mo, 44)) (n := 1) [.int (nI cn)] [] hx hb hml hown hts hK hN hX hP hS (c_Mo_top eh m24 m25 hacc hna (by omega)) rfl eh k_1006 k_1008 ks_Mo_top k_10 k_1009 (by decide +kernel) ⟨by decide, by decide⟩ rfl hl.1 rfl (Nat.le_of_ble_eq_true rfl) d_Mo_count_128 ⟨by decide, by decide⟩ (fun r N1 M_8 H locs hw hP hS => ?_)
              obtain ⟨rfl, hw⟩ := hw
              obtain ⟨rfl, rfl⟩ := hw
              refine W.eq (g2 := F0 m 131 ls [.int (nI (topA aA aS cn na))]) rfl ?_
              refine lv_goto (tgt := 151) hx hb d_Mo_count_131 (by decide) ?_
              rw [← hQ]
              exact gc_iret hx hb hr hlk hP hS d_Mo_count_151 ⟨rfl, Or.inr ⟨k, fx, fy, ⟨hk0, rfl⟩, eh, (fun z q0 => rfl), (by obtain rfl : k = 9 := (by omega); rfl)⟩⟩
          · skip
            refine lv_iload_n hx hb d_Mo_count_86 rfl (lv_at hl 1 rfl) ?_
            refine lv_bipush (v := nI 6) hx hb d_Mo_count_87 (by decide) ?_
            refine ln_ne (tgt := 99) hx hb d_Mo_count_89 (by decide) (by omega) (by omega) (fun c_9 => ?_) (fun c_9 => ?_)
            · skip
              refine lv_iload_n hx hb d_Mo_count_99 rfl (lv_at hl 1 rfl) ?_
              refine lv_bipush (v := nI 7) hx hb d_Mo_count_100 (by decide) ?_
              refine ln_ne (tgt := 112) hx hb d_Mo_count_102 (by decide) (by omega) (by omega) (fun c_10 => ?_) (fun c_10 => ?_)
              · skip
                refine lv_aload_n hx hb d_Mo_count_112 rfl (lv_at hl 0 rfl) ?_
                refine gm_get (C := R_Mo) (T := F_Mo) (n := 44) hx hb htl i_Mo hown hK hP eh rfl 38 (by decide) (htl _ k_781) (fun _ h => h) rfl d_Mo_count_113 ?_
                rw [← hQ]
                exact gc_iret hx hb hr hlk hP hS d_Mo_count_116 ⟨rfl, Or.inr ⟨k, fx, fy, ⟨hk0, rfl⟩, eh, (fun z q0 => rfl), (by obtain rfl : k = 8 := (by omega); rfl)⟩⟩
              · skip
                refine lv_aload_n hx hb d_Mo_count_105 rfl (lv_at hl 0 rfl) ?_
                refine gm_get (C := R_Mo) (T := F_Mo) (n := 44) hx hb htl i_Mo hown hK hP eh rfl 37 (by decide) (htl _ k_780) (fun _ h => h) rfl d_Mo_count_106 ?_
                refine lv_goto (tgt := 116) hx hb d_Mo_count_109 (by decide) ?_
                rw [← hQ]
                exact gc_iret hx hb hr hlk hP hS d_Mo_count_116 ⟨rfl, Or.inr ⟨k, fx, fy, ⟨hk0, rfl⟩, eh, (fun z q0 => rfl), (by obtain rfl : k = 7 := (by omega); rfl)⟩⟩
            · skip
              refine lv_aload_n hx hb d_Mo_count_92 rfl (lv_at hl 0 rfl) ?_
              refine gm_get (C := R_Mo) (T := F_Mo) (n := 44) hx hb htl i_Mo hown hK hP eh rfl 36 (by decide) (htl _ k_779) (fun _ h => h) rfl d_Mo_count_93 ?_
              refine lv_goto (tgt := 116) hx hb d_Mo_count_96 (by decide) ?_
              rw [← hQ]
              exact gc_iret hx hb hr hlk hP hS d_Mo_count_116 ⟨rfl, Or.inr ⟨k, fx, fy, ⟨hk0, rfl⟩, eh, (fun z q0 => rfl), (by obtain rfl : k = 6 := (by omega); rfl)⟩⟩
        · skip
          refine lv_iload_n hx hb d_Mo_count_51 rfl (lv_at hl 1 rfl) ?_
          refine lv_iconst (v := nI 3) hx hb d_Mo_count_52 (by decide) ?_
          refine ln_ne (tgt := 63) hx hb d_Mo_count_53 (by decide) (by omega) (by omega) (fun c_11 => ?_) (fun c_11 => ?_)
          · skip
            refine lv_iload_n hx hb d_Mo_count_63 rfl (lv_at hl 1 rfl) ?_
            refine lv_iconst (v := nI 4) hx hb d_Mo_count_64 (by decide) ?_
            refine ln_ne (tgt := 75) hx hb d_Mo_count_65 (by decide) (by omega) (by omega) (fun c_12 => ?_) (fun c_12 => ?_)
            · skip
              refine lv_aload_n hx hb d_Mo_count_75 rfl (lv_at hl 0 rfl) ?_
              refine gm_get (C := R_Mo) (T := F_Mo) (n := 44) hx hb htl i_Mo hown hK hP eh rfl 41 (by decide) (htl _ k_784) (fun _ h => h) rfl d_Mo_count_76 ?_
              rw [← hQ]
              exact gc_iret hx hb hr hlk hP hS d_Mo_count_79 ⟨rfl, Or.inr ⟨k, fx, fy, ⟨hk0, rfl⟩, eh, (fun z q0 => rfl), (by obtain rfl : k = 5 := (by omega); rfl)⟩⟩
            · skip
              refine lv_aload_n hx hb d_Mo_count_68 rfl (lv_at hl 0 rfl) ?_
              refine gm_get (C := R_Mo) (T := F_Mo) (n := 44) hx hb htl i_Mo hown hK hP eh rfl 40 (by decide) (htl _ k_783) (fun _ h => h) rfl d_Mo_count_69 ?_
              refine lv_goto (tgt := 79) hx hb d_Mo_count_72 (by decide) ?_
              rw [← hQ]
              exact gc_iret hx hb hr hlk hP hS d_Mo_count_79 ⟨rfl, Or.inr ⟨k, fx, fy, ⟨hk0, rfl⟩, eh, (fun z q0 => rfl), (by obtain rfl : k = 4 := (by omega); rfl)⟩⟩
          · skip
            refine lv_aload_n hx hb d_Mo_count_56 rfl (lv_at hl 0 rfl) ?_
            refine gc_V (q := (R_Mo, F_Mo, 44)) (n := 0) [] [] hx hb hml hown hts hK hN hX hP hS (c_Mo_otherMappings (pp := pp) (po := po) (pi := pi) (fl := fl) eh m10 m11 m12 m13 m14 m15 m16 m17 m18 m19 m20 m21 m22 m23 hRE (by omega) hpp hpo hpi hRF (by omega) hF hpo9) rfl eh k_1033 k_1035 ks_Mo_otherMappings k_10 k_1036 (by decide +kernel) ⟨by decide, by decide⟩ rfl hl.1 rfl (Nat.le_of_ble_eq_true rfl) d_Mo_count_57 ⟨by decide, by decide⟩ (fun r N1 M_13 H locs hw hP hS => ?_)
            obtain ⟨rfl, hw⟩ := hw
            obtain ⟨u1v_14, u2v_15, h_16, hfr_17, rfl⟩ := hw
            have h_18 := (hfr_17 _ (gm_ne m24 eh (fun h => by cases h))).trans m24
            have h_19 := (hfr_17 _ (gm_ne m25 eh (fun h => by cases h))).trans m25
            have h_20 := (hfr_17 _ (gm_ne m10 eh (fun h => by cases h))).trans m10
            have h_21 := (hfr_17 _ (gm_ne m11 eh (fun h => by cases h))).trans m11
            have h_22 := (hfr_17 _ (gm_ne m12 eh (fun h => by cases h))).trans m12
            have h_23 := (hfr_17 _ (gm_ne m13 eh (fun h => by cases h))).trans m13
            have h_24 := (hfr_17 _ (gm_ne m14 eh (fun h => by cases h))).trans m14
            have h_25 := (hfr_17 _ (gm_ne m15 eh (fun h => by cases h))).trans m15
            have h_26 := (hfr_17 _ (gm_ne m16 eh (fun h => by cases h))).trans m16
            have h_27 := (hfr_17 _ (gm_ne m17 eh (fun h => by cases h))).trans m17
            have h_28 := (hfr_17 _ (gm_ne m18 eh (fun h => by cases h))).trans m18
            have h_29 := (hfr_17 _ (gm_ne m19 eh (fun h => by cases h))).trans m19
            have h_30 := (hfr_17 _ (gm_ne m20 eh (fun h => by cases h))).trans m20
            have h_31 := (hfr_17 _ (gm_ne m21 eh (fun h => by cases h))).trans m21
            have h_32 := (hfr_17 _ (gm_ne m22 eh (fun h => by cases h))).trans m22
            have h_33 := (hfr_17 _ (gm_ne m23 eh (fun h => by cases h))).trans m23
            refine W.eq (g2 := F0 m 60 ls [.int (nI (cU fl nf 36))]) rfl ?_
            refine lv_goto (tgt := 79) hx hb d_Mo_count_60 (by decide) ?_
            rw [← hQ]
            exact gc_iret hx hb hr hlk hP hS d_Mo_count_79 ⟨rfl, Or.inr ⟨k, u1v_14, u2v_15, ⟨hk0, rfl⟩, h_16, (fun z q0 => (hfr_17 z q0).trans (rfl)), (by obtain rfl : k = 3 := (by omega); rfl)⟩⟩
      · skip
        refine lv_iload_n hx hb d_Mo_count_17 rfl (lv_at hl 1 rfl) ?_
        refine lz_ne (tgt := 28) hx hb d_Mo_count_18 (by decide) (by omega) (fun c_34 => ?_) (fun c_34 => ?_)
        · skip
          refine lv_iload_n hx hb d_Mo_count_28 rfl (lv_at hl 1 rfl) ?_
          refine lv_iconst (v := nI 1) hx hb d_Mo_count_29 (by decide) ?_
          refine ln_ne (tgt := 40) hx hb d_Mo_count_30 (by decide) (by omega) (by omega) (fun c_35 => ?_) (fun c_35 => ?_)
          · skip
            refine lv_aload_n hx hb d_Mo_count_40 rfl (lv_at hl 0 rfl) ?_
            refine gm_get (C := R_Mo) (T := F_Mo) (n := 44) hx hb htl i_Mo hown hK hP eh rfl 18 (by decide) (htl _ k_761) (fun _ h => h) rfl d_Mo_count_41 ?_
            rw [← hQ]
            exact gc_iret hx hb hr hlk hP hS d_Mo_count_44 ⟨rfl, Or.inr ⟨k, fx, fy, ⟨hk0, rfl⟩, eh, (fun z q0 => rfl), (by obtain rfl : k = 2 := (by omega); rfl)⟩⟩
          · skip
            refine lv_aload_n hx hb d_Mo_count_33 rfl (lv_at hl 0 rfl) ?_
            refine gm_get (C := R_Mo) (T := F_Mo) (n := 44) hx hb htl i_Mo hown hK hP eh rfl 29 (by decide) (htl _ k_772) (fun _ h => h) rfl d_Mo_count_34 ?_
            refine lv_goto (tgt := 44) hx hb d_Mo_count_37 (by decide) ?_
            rw [← hQ]
            exact gc_iret hx hb hr hlk hP hS d_Mo_count_44 ⟨rfl, Or.inr ⟨k, fx, fy, ⟨hk0, rfl⟩, eh, (fun z q0 => rfl), (by obtain rfl : k = 1 := (by omega); rfl)⟩⟩
        · skip
          refine lv_aload_n hx hb d_Mo_count_21 rfl (lv_at hl 0 rfl) ?_
          refine gm_get (C := R_Mo) (T := F_Mo) (n := 44) hx hb htl i_Mo hown hK hP eh rfl 8 (by decide) (htl _ k_751) (fun _ h => h) rfl d_Mo_count_22 ?_
          refine lv_goto (tgt := 44) hx hb d_Mo_count_25 (by decide) ?_
          rw [← hQ]
          exact gc_iret hx hb hr hlk hP hS d_Mo_count_44 ⟨rfl, Or.inr ⟨k, fx, fy, ⟨hk0, rfl⟩, eh, (fun z q0 => rfl), (by obtain rfl : k = 0 := (by omega); rfl)⟩⟩
    · skip
      exfalso; omega
  · skip
    refine lv_iload_n hx hb d_Mo_count_0 rfl (lv_at hl 1 rfl) ?_
    refine lv_if_lt (tgt := 10) hx hb d_Mo_count_1 (by decide) (fun c_36 => ?_) (fun c_36 => ?_)
    · skip
      refine lv_iconst (v := (-1)) hx hb d_Mo_count_10 (by decide) ?_
      rw [← hQ]
      exact gc_iret hx hb hr hlk hP hS d_Mo_count_11 ⟨rfl, Or.inl ⟨hno, rfl, rfl⟩⟩
    · skip
      refine lv_iload_n hx hb d_Mo_count_4 rfl (lv_at hl 1 rfl) ?_
      refine lv_bipush (v := nI 11) hx hb d_Mo_count_5 (by decide) ?_
      refine lv_icmp_le (tgt := 12) hx hb d_Mo_count_7 (by decide) (fun c_37 => ?_) (fun c_37 => ?_)
      · skip
        exact absurd (cnt_lift c_36 c_37) hno
      · skip
        refine lv_iconst (v := (-1)) hx hb d_Mo_count_10 (by decide) ?_
        rw [← hQ]
        exact gc_iret hx hb hr hlk hP hS d_Mo_count_11 ⟨rfl, Or.inl ⟨hno, rfl, rfl⟩⟩
end C40
