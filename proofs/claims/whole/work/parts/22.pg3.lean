section C22
variable {l : Launch} {D : va_G} {ca : Nat → ClassId} {A : Nat → Prop} {G : gG} {N : Nat} {M : gm_M}

theorem digs_256 (v : Nat) (h : v ≤ 255) : ∀ c ∈ digs v, c < 256 := by
  unfold digs; split
  · intro c hc; simp only [List.mem_cons, List.not_mem_nil, or_false] at hc; omega
  · split
    · intro c hc; simp only [List.mem_cons, List.not_mem_nil, or_false] at hc; omega
    · intro c hc; simp only [List.mem_cons, List.not_mem_nil, or_false] at hc; omega
theorem app_256 {a b : List Nat} (ha : ∀ c ∈ a, c < 256) (hb : ∀ c ∈ b, c < 256) : ∀ c ∈ a ++ b, c < 256 := fun c h => (List.mem_append.mp h).elim (ha c) (hb c)
theorem one_256 {x : Nat} (h : x < 256) : ∀ c ∈ [x], c < 256 := fun c hc => by rw [List.mem_singleton.mp hc]; exact h
theorem rgx_256 {a b : Nat} (ha : a ≤ 255) (hb : b ≤ 255) : ∀ c ∈ rgx a b, c < 256 := by
  unfold rgx; split
  · exact one_256 (by decide)
  · split
    · exact digs_256 a ha
    · exact app_256 (app_256 (digs_256 a ha) (one_256 (by decide))) (digs_256 b hb)
theorem rtx_256 {a d q : Nat} {lw hw : Nat → Nat} (ha : a < 3) (hd : d < 3) (hq : q < 4) (hl : ∀ q, lw q ≤ 255) (hh : ∀ q, hw q ≤ 255) : ∀ c ∈ rtx a d q lw hw, c < 256 := by
  have h1 := (tc_ok 1 (by decide) a ha).2
  have h2 := (tc_ok 2 (by decide) d hd).2
  have h3 := (tc_ok 3 (by decide) q hq).2
  unfold rtx
  refine app_256 (app_256 (app_256 (app_256 (app_256 ?_ (rgx_256 (hl _) (hh _))) (one_256 (by decide))) (rgx_256 (hl _) (hh _))) (one_256 (by decide))) (rgx_256 (hl _) (hh _))
  intro c hc; simp only [List.mem_cons, List.not_mem_nil, or_false] at hc; omega
theorem rtx_len (a d q : Nat) (lw hw : Nat → Nat) : (rtx a d q lw hw).length ≤ 26 := by
  have h0 := rgx_len (lw 0) (hw 0)
  have h1 := rgx_len (lw 1) (hw 1)
  have h2 := rgx_len (lw 2) (hw 2)
  unfold rtx
  simp only [List.length_append, List.length_cons, List.length_nil]
  omega
theorem getD_in {t : List Nat} {i : Nat} (h : i < t.length) : t.getD i 32 = t.getD i 0 := by simp [List.getD, List.getElem?_eq_getElem h]
theorem getD_out {t : List Nat} {i : Nat} (h : t.length ≤ i) : t.getD i 0 = 0 := by simp [List.getD, List.getElem?_eq_none h]
/-- a mapping of the protocol a has the public port b; the inside endpoint b -/
def hasP (ne : Nat) (pp po : Nat → Nat) (nf : Nat) (fl : Nat → Nat → Nat) (a b : Nat) : Prop := (∃ k, k < ne ∧ pp k = a ∧ po k = b) ∨ ∃ k, k < nf ∧ fl k 0 = a ∧ fl k 3 = b
def hasI (ne : Nat) (pp pi : Nat → Nat) (nf : Nat) (fl : Nat → Nat → Nat) (a b : Nat) : Prop := (∃ k, k < ne ∧ pp k = a ∧ pi k = b) ∨ ∃ k, k < nf ∧ fl k 0 = a ∧ fl k 1 = b
set_option maxHeartbeats 4000000 in
set_option maxRecDepth 100000 in
theorem c_Pg_ruleText (y y2 : Int32) {g cu be so ta tm lt nt : Nat} {bp : Int32} {nr : Nat} {ra : Nat → Nat} {t2 : List Nat} {f2 : Nat → Int32} {ru lw hw : Nat → Nat → Nat} (eg : M g = some (.inr (8, [.ref (g + 1), .ref (g + 3), .ref (g + 4), .ref (g + 57), .ref (g + 59), .ref (g + 63), .ref (g + 81), .ref cu, .ref be, .int (nI so), .int (nI ta), .int (nI tm), .int (nI lt), .int (nI nt), .int bp]))) (eb : M (g + 4) = some (.inr (6, [.ref (g + 5), .int (nI nr)]))) (ea : M (g + 5) = some (.inl (ca 2, 17, .inr (.inr (.inr (.inr (oF ra))))))) (el2 : M (g + 57) = some (.inr (4, [.ref (g + 58), .int (nI t2.length)]))) (ec2 : M (g + 58) = some (.inl (ca 1, 40, .inl f2))) (hr1 : ∀ fi, fi < nr → M (ra fi) = some (.inr (5, [.int (nI (ru fi 0)), .int (nI (ru fi 1)), .int (nI (ru fi 2)), .ref (ra fi + 1), .ref (ra fi + 2)]))) (hr2 : ∀ fi, fi < 17 → M (ra fi + 1) = some (.inl (ca 0, 3, .inl (iN (lw fi))))) (hr3 : ∀ fi, fi < 17 → M (ra fi + 2) = some (.inl (ca 0, 3, .inl (iN (hw fi))))) (hnr : nr ≤ 16) (hR : okR (g + 6) ra) (hU : okU nr ru lw hw) : gC l D ca A G y_Pg_ruleText (.code y_Pg_ruleText b_Pg_ruleText 3 (some .int)) ({ frames := 5, cells := 0, slots := 0, locals := 107 }) N M [.ref g, .int y, .int y2] gm_i (fun (r : Int32) (N1 : Nat) (M1 : gm_M) => N = N1 ∧ ((((¬ ∃ k : Nat, k < nr ∧ y = nI (k + 1)) ∨ y2 < 0) ∧ M = M1 ∧ (-1) = r) ∨ (∃ (k : Nat) (i : Nat) (h : Nat → Int32), (k < nr ∧ y = nI (k + 1)) ∧ (i < 2 ^ 31 ∧ y2 = nI i) ∧ (txt h (rtx (ru k 0) (ru k 1) (ru k 2) (lw k) (hw k))) ∧ gm_up (gm_up M (g + 57) (.inr (4, [.ref (g + 58), .int (nI (rtx (ru k 0) (ru k 1) (ru k 2) (lw k) (hw k)).length)]))) (g + 58) (.inl (ca 1, 40, .inl h)) = M1 ∧ nI ((rtx (ru k 0) (ru k 1) (ru k 2) (lw k) (hw k)).getD i 0) = r))) := by
  refine gm_body (by decide) (Nat.le_of_ble_eq_true rfl) (fun p e s m below meth c ls hx hb hr hts hown hlk hml hnm hP hK hN hX hS hl => ?_)
  have htl : ∀ w ∈ LW, w.before _ s = true := fun w h => hts w (List.mem_cons_of_mem _ h)
  have hown : s.vm.findClass "PacketGate" = some m.cls := hown
  have hl : lv_has ls 3 [(0, .ref g), (1, .int y), (2, .int y2)] := hl
  refine lv_aload_n hx hb d_Pg_ruleText_0 rfl (lv_at hl 0 rfl) ?_
  refine gm_get (C := R_Pg) (T := F_Pg) (n := 15) hx hb htl i_Pg hown hK hP eg rfl 2 (by decide) (htl _ k_199) (fun _ h => h) rfl d_Pg_ruleText_1 ?_
  refine lv_iload_n hx hb d_Pg_ruleText_4 rfl (lv_at hl 1 rfl) ?_
  refine gc_V (q := (R_Rb, F_Rb, 2)) (n := 1) [.int y] [] hx hb hml hown hts hK hN hX hP hS (c_Rb_has y eb (by omega)) rfl eb k_421 k_422 k_423 k_4 k_424 (by decide +kernel) ⟨by decide, by decide⟩ rfl hl.1 rfl (Nat.le_of_ble_eq_true rfl) d_Pg_ruleText_5 ⟨by decide, by decide⟩ (fun r N1 M_1 H locs hw hP hS => ?_)
  obtain ⟨rfl, hw⟩ := hw
  rcases hw with ⟨c_2, rfl, rfl⟩ | ⟨c_3, rfl, rfl⟩
  · skip
    refine W.eq (g2 := F0 m 8 ls [.int (nI 1)]) rfl ?_
    obtain ⟨k, hk, rfl⟩ := lift1 (by omega) c_2
    refine lv_if_eq (tgt := 15) hx hb d_Pg_ruleText_8 (by decide) (fun q => absurd q (by decide)) (fun _ => ?_)
    refine lv_iload_n hx hb d_Pg_ruleText_11 rfl (lv_at hl 2 rfl) ?_
    refine lv_if_ge (tgt := 17) hx hb d_Pg_ruleText_12 (by decide) (fun c_4 => ?_) (fun c_4 => ?_)
    · skip
      obtain ⟨i, hi, rfl⟩ := nI_of (Int32.not_lt.mpr c_4)
      refine lv_aload_n hx hb d_Pg_ruleText_17 rfl (lv_at hl 0 rfl) ?_
      refine gm_get (C := R_Pg) (T := F_Pg) (n := 15) hx hb htl i_Pg hown hK hP eg rfl 2 (by decide) (htl _ k_199) (fun _ h => h) rfl d_Pg_ruleText_18 ?_
      refine lv_iload_n hx hb d_Pg_ruleText_21 rfl (lv_at hl 1 rfl) ?_
      refine gc_V (q := (R_Rb, F_Rb, 2)) (n := 1) [.int (nI (k + 1))] [] hx hb hml hown hts hK hN hX hP hS (c_Rb_get eb ea (by omega)) rfl eb k_433 k_434 k_435 k_4 k_436 (by decide +kernel) ⟨by decide, by decide⟩ rfl hl.1 rfl (Nat.le_of_ble_eq_true rfl) d_Pg_ruleText_22 ⟨by decide, by decide⟩ (fun r N1 M_5 H locs hw hP hS => ?_)
      obtain ⟨rfl, hw⟩ := hw
      obtain ⟨rfl, rfl⟩ := hw
      refine W.eq (g2 := F0 m 25 ls [.ref (ra k)]) rfl ?_
      refine lv_aload_n hx hb d_Pg_ruleText_25 rfl (lv_at hl 0 rfl) ?_
      refine gm_get (C := R_Pg) (T := F_Pg) (n := 15) hx hb htl i_Pg hown hK hP eg rfl 3 (by decide) (htl _ k_200) (fun _ h => h) rfl d_Pg_ruleText_26 ?_
      refine gc_V (q := (R_Ru, F_Ru, 5)) (n := 1) [.ref (g + 57)] [] hx hb hml hown hts hK hN hX hP hS (c_Ru_write (hr1 k (by omega)) (hr2 k (by omega)) (hr3 k (by omega)) el2 ec2 (fun q => (hU.2 k q).1) (fun q => (hU.2 k q).2) ((hU.1 k hk).1) ((hU.1 k hk).2.1) ((hU.1 k hk).2.2)) rfl (hr1 k (by omega)) k_437 k_438 k_439 k_5 k_440 (by decide +kernel) ⟨by decide, by decide⟩ rfl hl.1 rfl (Nat.le_of_ble_eq_true rfl) d_Pg_ruleText_29 ⟨by decide, by decide⟩ (fun r N1 M_6 H locs hw hP hS => ?_)
      obtain ⟨rfl, hw⟩ := hw
      obtain ⟨gv_7, c_8, rfl⟩ := hw
      have h_9 := gm_pass (k := (g + 57)) (y := .inr (4, [.ref (g + 58), .int (nI (rtx (ru k 0) (ru k 1) (ru k 2) (lw k) (hw k)).length)])) eg (gm_ne eg el2 (fun h => by cases h))
      have h_10 := gm_pass (k := (g + 57)) (y := .inr (4, [.ref (g + 58), .int (nI (rtx (ru k 0) (ru k 1) (ru k 2) (lw k) (hw k)).length)])) eb (gm_ne eb el2 (fun h => by cases h))
      have h_11 := gm_pass (k := (g + 57)) (y := .inr (4, [.ref (g + 58), .int (nI (rtx (ru k 0) (ru k 1) (ru k 2) (lw k) (hw k)).length)])) ea (gm_ne ea el2 (fun h => by cases h))
      have h_12 := gm_pass (k := (g + 57)) (y := .inr (4, [.ref (g + 58), .int (nI (rtx (ru k 0) (ru k 1) (ru k 2) (lw k) (hw k)).length)])) ec2 (gm_ne ec2 el2 (fun h => by cases h))
      have h_13 := gm_up_self M (g + 57) (.inr (4, [.ref (g + 58), .int (nI (rtx (ru k 0) (ru k 1) (ru k 2) (lw k) (hw k)).length)]))
      have hf_14 : ∀ fi, fi < nr → (gm_up M (g + 57) (.inr (4, [.ref (g + 58), .int (nI (rtx (ru k 0) (ru k 1) (ru k 2) (lw k) (hw k)).length)]))) (ra fi) = some (.inr (5, [.int (nI (ru fi 0)), .int (nI (ru fi 1)), .int (nI (ru fi 2)), .ref (ra fi + 1), .ref (ra fi + 2)])) := fun fi hfi => gm_pass (k := (g + 57)) (y := .inr (4, [.ref (g + 58), .int (nI (rtx (ru k 0) (ru k 1) (ru k 2) (lw k) (hw k)).length)])) (hr1 fi hfi) (gm_ne (hr1 fi hfi) el2 (fun h => by cases h))
      have hf_15 : ∀ fi, fi < 17 → (gm_up M (g + 57) (.inr (4, [.ref (g + 58), .int (nI (rtx (ru k 0) (ru k 1) (ru k 2) (lw k) (hw k)).length)]))) (ra fi + 1) = some (.inl (ca 0, 3, .inl (iN (lw fi)))) := fun fi hfi => gm_pass (k := (g + 57)) (y := .inr (4, [.ref (g + 58), .int (nI (rtx (ru k 0) (ru k 1) (ru k 2) (lw k) (hw k)).length)])) (hr2 fi hfi) (gm_ne (hr2 fi hfi) el2 (fun h => by cases h))
      have hf_16 : ∀ fi, fi < 17 → (gm_up M (g + 57) (.inr (4, [.ref (g + 58), .int (nI (rtx (ru k 0) (ru k 1) (ru k 2) (lw k) (hw k)).length)]))) (ra fi + 2) = some (.inl (ca 0, 3, .inl (iN (hw fi)))) := fun fi hfi => gm_pass (k := (g + 57)) (y := .inr (4, [.ref (g + 58), .int (nI (rtx (ru k 0) (ru k 1) (ru k 2) (lw k) (hw k)).length)])) (hr3 fi hfi) (gm_ne (hr3 fi hfi) el2 (fun h => by cases h))
      have hP : gm_P D cls A N (gm_up (gm_up M (g + 57) (.inr (4, [.ref (g + 58), .int (nI (rtx (ru k 0) (ru k 1) (ru k 2) (lw k) (hw k)).length)]))) (g + 58) (.inl (ca 1, 40, .inl gv_7))) H := hP
      have h_17 := gm_pass (k := (g + 58)) (y := .inl (ca 1, 40, .inl gv_7)) h_9 (gm_ne h_9 h_12 (fun h => by cases h))
      have h_18 := gm_pass (k := (g + 58)) (y := .inl (ca 1, 40, .inl gv_7)) h_10 (gm_ne h_10 h_12 (fun h => by cases h))
      have h_19 := gm_pass (k := (g + 58)) (y := .inl (ca 1, 40, .inl gv_7)) h_11 (gm_ne h_11 h_12 (fun h => by simp at h))
      have h_20 := gm_pass (k := (g + 58)) (y := .inl (ca 1, 40, .inl gv_7)) h_13 (gm_ne h_13 h_12 (fun h => by cases h))
      have h_21 := gm_up_self (gm_up M (g + 57) (.inr (4, [.ref (g + 58), .int (nI (rtx (ru k 0) (ru k 1) (ru k 2) (lw k) (hw k)).length)]))) (g + 58) (.inl (ca 1, 40, .inl gv_7))
      have hf_22 : ∀ fi, fi < nr → (gm_up (gm_up M (g + 57) (.inr (4, [.ref (g + 58), .int (nI (rtx (ru k 0) (ru k 1) (ru k 2) (lw k) (hw k)).length)]))) (g + 58) (.inl (ca 1, 40, .inl gv_7))) (ra fi) = some (.inr (5, [.int (nI (ru fi 0)), .int (nI (ru fi 1)), .int (nI (ru fi 2)), .ref (ra fi + 1), .ref (ra fi + 2)])) := fun fi hfi => gm_pass (k := (g + 58)) (y := .inl (ca 1, 40, .inl gv_7)) (hf_14 fi hfi) (gm_ne (hf_14 fi hfi) h_12 (fun h => by cases h))
      have hf_23 : ∀ fi, fi < 17 → (gm_up (gm_up M (g + 57) (.inr (4, [.ref (g + 58), .int (nI (rtx (ru k 0) (ru k 1) (ru k 2) (lw k) (hw k)).length)]))) (g + 58) (.inl (ca 1, 40, .inl gv_7))) (ra fi + 1) = some (.inl (ca 0, 3, .inl (iN (lw fi)))) := fun fi hfi => gm_pass (k := (g + 58)) (y := .inl (ca 1, 40, .inl gv_7)) (hf_15 fi hfi) (gm_ne (hf_15 fi hfi) h_12 (fun h => by simp at h))
      have hf_24 : ∀ fi, fi < 17 → (gm_up (gm_up M (g + 57) (.inr (4, [.ref (g + 58), .int (nI (rtx (ru k 0) (ru k 1) (ru k 2) (lw k) (hw k)).length)]))) (g + 58) (.inl (ca 1, 40, .inl gv_7))) (ra fi + 2) = some (.inl (ca 0, 3, .inl (iN (hw fi)))) := fun fi hfi => gm_pass (k := (g + 58)) (y := .inl (ca 1, 40, .inl gv_7)) (hf_16 fi hfi) (gm_ne (hf_16 fi hfi) h_12 (fun h => by simp at h))
      refine W.eq (g2 := F0 m 32 ls []) rfl ?_
      have hrl := rtx_len (ru k 0) (ru k 1) (ru k 2) (lw k) (hw k)
      refine lv_iload_n hx hb d_Pg_ruleText_32 rfl (lv_at hl 2 rfl) ?_
      refine lv_aload_n hx hb d_Pg_ruleText_33 rfl (lv_at hl 0 rfl) ?_
      refine gm_get (C := R_Pg) (T := F_Pg) (n := 15) hx hb htl i_Pg hown hK hP h_17 rfl 3 (by decide) (htl _ k_200) (fun _ h => h) rfl d_Pg_ruleText_34 ?_
      refine gm_get (C := R_Li) (T := F_Li) (n := 2) hx hb htl i_Li hown hK hP h_20 rfl 1 (by decide) (htl _ k_33) (fun _ h => h) rfl d_Pg_ruleText_37 ?_
      refine ln_ge (tgt := 54) hx hb d_Pg_ruleText_40 (by decide) (by omega) (by omega) (fun c_25 => ?_) (fun c_25 => ?_)
      · skip
        refine lv_iconst (v := nI 0) hx hb d_Pg_ruleText_54 (by decide) ?_
        exact gc_iret hx hb hr hlk hP hS d_Pg_ruleText_55 ⟨rfl, Or.inr ⟨k, i, gv_7, ⟨hk, rfl⟩, ⟨hi, rfl⟩, c_8, rfl, (by rw [getD_out (by omega)])⟩⟩
      · skip
        refine lv_aload_n hx hb d_Pg_ruleText_43 rfl (lv_at hl 0 rfl) ?_
        refine gm_get (C := R_Pg) (T := F_Pg) (n := 15) hx hb htl i_Pg hown hK hP h_17 rfl 3 (by decide) (htl _ k_200) (fun _ h => h) rfl d_Pg_ruleText_44 ?_
        refine lv_iload_n hx hb d_Pg_ruleText_47 rfl (lv_at hl 2 rfl) ?_
        refine gc_V (q := (R_Li, F_Li, 2)) (n := 1) [.int (nI i)] [] hx hb hml hown hts hK hN hX hP hS (c_Li_at h_20 h_21 (by omega) (by omega) c_8 (rtx_256 (hU.1 k hk).1 (hU.1 k hk).2.1 (hU.1 k hk).2.2 (fun q => (hU.2 k q).1) (fun q => (hU.2 k q).2))) rfl h_20 k_477 k_380 k_381 k_2 k_382 (by decide +kernel) ⟨by decide, by decide⟩ rfl hl.1 rfl (Nat.le_of_ble_eq_true rfl) d_Pg_ruleText_48 ⟨by decide, by decide⟩ (fun r N1 M_26 H locs hw hP hS => ?_)
        obtain ⟨rfl, hw⟩ := hw
        obtain ⟨rfl, rfl⟩ := hw
        refine W.eq (g2 := F0 m 51 ls [.int (nI ((rtx (ru k 0) (ru k 1) (ru k 2) (lw k) (hw k)).getD i 32))]) rfl ?_
        refine lv_goto (tgt := 55) hx hb d_Pg_ruleText_51 (by decide) ?_
        exact gc_iret hx hb hr hlk hP hS d_Pg_ruleText_55 ⟨rfl, Or.inr ⟨k, i, gv_7, ⟨hk, rfl⟩, ⟨hi, rfl⟩, c_8, rfl, (by rw [getD_in (by omega)])⟩⟩
    · skip
      refine lv_iconst (v := (-1)) hx hb d_Pg_ruleText_15 (by decide) ?_
      exact gc_iret hx hb hr hlk hP hS d_Pg_ruleText_16 ⟨rfl, Or.inl ⟨Or.inr (Int32.not_le.mp c_4), rfl, rfl⟩⟩
  · skip
    refine W.eq (g2 := F0 m 8 ls [.int (nI 0)]) rfl ?_
    refine lv_if_eq (tgt := 15) hx hb d_Pg_ruleText_8 (by decide) (fun _ => ?_) (fun q => absurd q (by decide))
    refine lv_iconst (v := (-1)) hx hb d_Pg_ruleText_15 (by decide) ?_
    exact gc_iret hx hb hr hlk hP hS d_Pg_ruleText_16 ⟨rfl, Or.inl ⟨Or.inl (lift1_not (by omega) c_3), rfl, rfl⟩⟩
set_option maxHeartbeats 4000000 in
set_option maxRecDepth 100000 in
theorem c_Pg_hide (y y2 : Int32) {g cu be so ta tm lt nt : Nat} {bp : Int32} {ne : Nat} {pp : Nat → Nat} {po : Nat → Nat} {pi : Nat → Nat} {nf : Nat} {fa : Nat → Nat} {fl : Nat → Nat → Nat} (eg : M g = some (.inr (8, [.ref (g + 1), .ref (g + 3), .ref (g + 4), .ref (g + 57), .ref (g + 59), .ref (g + 63), .ref (g + 81), .ref cu, .ref be, .int (nI so), .int (nI ta), .int (nI tm), .int (nI lt), .int (nI nt), .int bp]))) (ex0 : M (g + 59) = some (.inr (1, [.ref (g + 60), .ref (g + 61), .ref (g + 62), .int (nI ne)]))) (ex1 : M (g + 60) = some (.inl (ca 0, 4, .inl (iN pp)))) (ex2 : M (g + 61) = some (.inl (ca 0, 4, .inl (iN po)))) (ex3 : M (g + 62) = some (.inl (ca 0, 4, .inl (iN pi)))) (ef : M (g + 63) = some (.inr (3, [.ref (g + 64), .int (nI nf)]))) (efa : M (g + 64) = some (.inl (ca 3, 16, .inr (.inr (.inr (.inr (oF fa))))))) (hne : ne ≤ 4) (hpp : ∀ k, pp k < 65536) (hpo : ∀ k, po k < 65536) (hpi : ∀ k, pi k < 65536) (hf : ∀ fi, fi < 16 → M (fa fi) = some (.inr (2, [.int (nI (fl fi 0)), .int (nI (fl fi 1)), .int (nI (fl fi 2)), .int (nI (fl fi 3)), .int (nI (fl fi 4)), .int (nI (fl fi 5)), .int (nI (fl fi 6)), .int (nI (fl fi 7))]))) (hnf : nf ≤ 16) (hA : okA (g + 65) fa) (hF : okF fl) : gC l D ca A G y_Pg_hide (.code y_Pg_hide b_Pg_hide 4 (some .int)) ({ frames := 2, cells := 0, slots := 0, locals := 46 }) N M [.ref g, .int y, .int y2] gm_i (fun (r : Int32) (N1 : Nat) (M1 : gm_M) => N = N1 ∧ (((∀ j, j < ne → ¬ (nI (pp j) = y ∧ nI (po j) = y2)) ∧ M = M1 ∧ (-1) = r) ∨ (∃ (k : Nat) (fa1 : Nat → Nat) (fl1 : Nat → Nat → Nat) (n1 : Nat), (k < ne) ∧ (nI (pp k) = y ∧ nI (po k) = y2) ∧ (∀ j, j < k → ¬ (nI (pp j) = y ∧ nI (po j) = y2)) ∧ (sweep (eP (pp k) (po k)) nf fl nf = (fl1, n1)) ∧ (n1 ≤ nf) ∧ (okA (g + 65) fa1) ∧ (okF fl1) ∧ M1 (g + 60) = some (.inl (ca 0, 4, .inl (iN (va_up pp k (pp (ne - 1)))))) ∧ M1 (g + 61) = some (.inl (ca 0, 4, .inl (iN (va_up po k (po (ne - 1)))))) ∧ M1 (g + 62) = some (.inl (ca 0, 4, .inl (iN (va_up pi k (pi (ne - 1)))))) ∧ M1 (g + 59) = some (.inr (1, [.ref (g + 60), .ref (g + 61), .ref (g + 62), .int (nI (ne - 1))])) ∧ M1 (g + 63) = some (.inr (3, [.ref (g + 64), .int (nI n1)])) ∧ M1 (g + 64) = some (.inl (ca 3, 16, .inr (.inr (.inr (.inr (oF fa1)))))) ∧ (∀ fi, fi < 16 → M1 (fa1 fi) = some (.inr (2, [.int (nI (fl1 fi 0)), .int (nI (fl1 fi 1)), .int (nI (fl1 fi 2)), .int (nI (fl1 fi 3)), .int (nI (fl1 fi 4)), .int (nI (fl1 fi 5)), .int (nI (fl1 fi 6)), .int (nI (fl1 fi 7))]))) ∧ (∀ z, z ≠ (g + 60) → z ≠ (g + 61) → z ≠ (g + 62) → z ≠ (g + 59) → z ≠ (g + 63) → z ≠ (g + 64) → M1 z = M z) ∧ nI 0 = r))) := by
  refine gm_body (by decide) (Nat.le_of_ble_eq_true rfl) (fun p e s m below meth c ls hx hb hr hts hown hlk hml hnm hP hK hN hX hS hl => ?_)
  have htl : ∀ w ∈ LW, w.before _ s = true := fun w h => hts w (List.mem_cons_of_mem _ h)
  have hown : s.vm.findClass "PacketGate" = some m.cls := hown
  have hl : lv_has ls 4 [(0, .ref g), (1, .int y), (2, .int y2)] := hl
  have hfb : ∀ i q, fl i q < 1000000 := fun i q => (hF i).1 q
  refine lv_aload_n hx hb d_Pg_hide_0 rfl (lv_at hl 0 rfl) ?_
  refine gm_get (C := R_Pg) (T := F_Pg) (n := 15) hx hb htl i_Pg hown hK hP eg rfl 4 (by decide) (htl _ k_201) (fun _ h => h) rfl d_Pg_hide_1 ?_
  refine lv_iload_n hx hb d_Pg_hide_4 rfl (lv_at hl 1 rfl) ?_
  refine lv_iload_n hx hb d_Pg_hide_5 rfl (lv_at hl 2 rfl) ?_
  refine gc_V (q := (R_Ex, F_Ex, 4)) (n := 2) [.int y, .int y2] [] hx hb hml hown hts hK hN hX hP hS (c_Ex_findI y y2 ex0 ex1 ex2 ex3 (by omega) hpp hpo hpi) rfl ex0 k_533 k_498 k_499 k_6 k_500 (by decide +kernel) ⟨by decide, by decide⟩ rfl hl.1 rfl (Nat.le_of_ble_eq_true rfl) d_Pg_hide_6 ⟨by decide, by decide⟩ (fun r N1 M_1 H locs hw hP hS => ?_)
  obtain ⟨rfl, hw⟩ := hw
  rcases hw with ⟨kv_2, c_3, c_4, c_5, rfl, rfl⟩ | ⟨c_6, rfl, rfl⟩
  · skip
    refine W.eq (g2 := F0 m 9 ls [.int (nI kv_2)]) rfl ?_
    obtain ⟨rfl, rfl⟩ := c_4
    have hb1 := hpp kv_2
    have hb2 := hpo kv_2
    refine lv_istore_n (lv' := [(3, .int (nI kv_2)), (0, .ref g), (1, .int (nI (pp kv_2))), (2, .int (nI (po kv_2)))]) hx hb d_Pg_hide_9 rfl hl (by decide) rfl (fun ls hl => ?_)
    refine lv_iload_n hx hb d_Pg_hide_10 rfl (lv_at hl 0 rfl) ?_
    refine lv_iconst (v := (-1)) hx hb d_Pg_hide_11 (by decide) ?_
    refine lv_icmp_ne (tgt := 17) hx hb d_Pg_hide_12 (by decide) (fun _ => ?_) (fun q => absurd q (nI_nm1 (by omega)))
    refine lv_aload_n hx hb d_Pg_hide_17 rfl (lv_at hl 1 rfl) ?_
    refine gm_get (C := R_Pg) (T := F_Pg) (n := 15) hx hb htl i_Pg hown hK hP eg rfl 4 (by decide) (htl _ k_201) (fun _ h => h) rfl d_Pg_hide_18 ?_
    refine lv_iload_n hx hb d_Pg_hide_21 rfl (lv_at hl 0 rfl) ?_
    refine gc_V (q := (R_Ex, F_Ex, 4)) (n := 1) [.int (nI kv_2)] [] hx hb hml hown hts hK hN hX hP hS (c_Ex_remove ex0 ex1 ex2 ex3 (by omega) hpp hpo hpi (by omega) (by omega) (by omega) (by omega)) rfl ex0 k_534 k_535 k_536 k_6 k_537 (by decide +kernel) ⟨by decide, by decide⟩ rfl hl.1 rfl (Nat.le_of_ble_eq_true rfl) d_Pg_hide_22 ⟨by decide, by decide⟩ (fun r N1 M_7 H locs hw hP hS => ?_)
    obtain ⟨rfl, hw⟩ := hw
    obtain rfl := hw
    have h_8 := gm_pass (k := (g + 60)) (y := .inl (ca 0, 4, .inl (iN (va_up pp kv_2 (pp (ne - 1)))))) eg (gm_ne eg ex1 (fun h => by cases h))
    have h_9 := gm_pass (k := (g + 60)) (y := .inl (ca 0, 4, .inl (iN (va_up pp kv_2 (pp (ne - 1)))))) ex0 (gm_ne ex0 ex1 (fun h => by cases h))
    have h_10 := gm_pass (k := (g + 60)) (y := .inl (ca 0, 4, .inl (iN (va_up pp kv_2 (pp (ne - 1)))))) ex2 (by omega)
    have h_11 := gm_pass (k := (g + 60)) (y := .inl (ca 0, 4, .inl (iN (va_up pp kv_2 (pp (ne - 1)))))) ex3 (by omega)
    have h_12 := gm_pass (k := (g + 60)) (y := .inl (ca 0, 4, .inl (iN (va_up pp kv_2 (pp (ne - 1)))))) ef (gm_ne ef ex1 (fun h => by cases h))
    have h_13 := gm_pass (k := (g + 60)) (y := .inl (ca 0, 4, .inl (iN (va_up pp kv_2 (pp (ne - 1)))))) efa (gm_ne efa ex1 (fun h => by simp at h))
    have h_14 := gm_up_self M (g + 60) (.inl (ca 0, 4, .inl (iN (va_up pp kv_2 (pp (ne - 1))))))
    have hf_15 : ∀ fi, fi < 16 → (gm_up M (g + 60) (.inl (ca 0, 4, .inl (iN (va_up pp kv_2 (pp (ne - 1))))))) (fa fi) = some (.inr (2, [.int (nI (fl fi 0)), .int (nI (fl fi 1)), .int (nI (fl fi 2)), .int (nI (fl fi 3)), .int (nI (fl fi 4)), .int (nI (fl fi 5)), .int (nI (fl fi 6)), .int (nI (fl fi 7))])) := fun fi hfi => gm_pass (k := (g + 60)) (y := .inl (ca 0, 4, .inl (iN (va_up pp kv_2 (pp (ne - 1)))))) (hf fi hfi) (gm_ne (hf fi hfi) ex1 (fun h => by cases h))
    have h_16 := gm_pass (k := (g + 61)) (y := .inl (ca 0, 4, .inl (iN (va_up po kv_2 (po (ne - 1)))))) h_8 (gm_ne h_8 h_10 (fun h => by cases h))
    have h_17 := gm_pass (k := (g + 61)) (y := .inl (ca 0, 4, .inl (iN (va_up po kv_2 (po (ne - 1)))))) h_9 (gm_ne h_9 h_10 (fun h => by cases h))
    have h_18 := gm_pass (k := (g + 61)) (y := .inl (ca 0, 4, .inl (iN (va_up po kv_2 (po (ne - 1)))))) h_11 (by omega)
    have h_19 := gm_pass (k := (g + 61)) (y := .inl (ca 0, 4, .inl (iN (va_up po kv_2 (po (ne - 1)))))) h_12 (gm_ne h_12 h_10 (fun h => by cases h))
    have h_20 := gm_pass (k := (g + 61)) (y := .inl (ca 0, 4, .inl (iN (va_up po kv_2 (po (ne - 1)))))) h_13 (gm_ne h_13 h_10 (fun h => by simp at h))
    have h_21 := gm_pass (k := (g + 61)) (y := .inl (ca 0, 4, .inl (iN (va_up po kv_2 (po (ne - 1)))))) h_14 (by omega)
    have h_22 := gm_up_self (gm_up M (g + 60) (.inl (ca 0, 4, .inl (iN (va_up pp kv_2 (pp (ne - 1))))))) (g + 61) (.inl (ca 0, 4, .inl (iN (va_up po kv_2 (po (ne - 1))))))
    have hf_23 : ∀ fi, fi < 16 → (gm_up (gm_up M (g + 60) (.inl (ca 0, 4, .inl (iN (va_up pp kv_2 (pp (ne - 1))))))) (g + 61) (.inl (ca 0, 4, .inl (iN (va_up po kv_2 (po (ne - 1))))))) (fa fi) = some (.inr (2, [.int (nI (fl fi 0)), .int (nI (fl fi 1)), .int (nI (fl fi 2)), .int (nI (fl fi 3)), .int (nI (fl fi 4)), .int (nI (fl fi 5)), .int (nI (fl fi 6)), .int (nI (fl fi 7))])) := fun fi hfi => gm_pass (k := (g + 61)) (y := .inl (ca 0, 4, .inl (iN (va_up po kv_2 (po (ne - 1)))))) (hf_15 fi hfi) (gm_ne (hf_15 fi hfi) h_10 (fun h => by cases h))
    have h_24 := gm_pass (k := (g + 62)) (y := .inl (ca 0, 4, .inl (iN (va_up pi kv_2 (pi (ne - 1)))))) h_16 (gm_ne h_16 h_18 (fun h => by cases h))
    have h_25 := gm_pass (k := (g + 62)) (y := .inl (ca 0, 4, .inl (iN (va_up pi kv_2 (pi (ne - 1)))))) h_17 (gm_ne h_17 h_18 (fun h => by cases h))
    have h_26 := gm_pass (k := (g + 62)) (y := .inl (ca 0, 4, .inl (iN (va_up pi kv_2 (pi (ne - 1)))))) h_19 (gm_ne h_19 h_18 (fun h => by cases h))
    have h_27 := gm_pass (k := (g + 62)) (y := .inl (ca 0, 4, .inl (iN (va_up pi kv_2 (pi (ne - 1)))))) h_20 (gm_ne h_20 h_18 (fun h => by simp at h))
    have h_28 := gm_pass (k := (g + 62)) (y := .inl (ca 0, 4, .inl (iN (va_up pi kv_2 (pi (ne - 1)))))) h_21 (by omega)
    have h_29 := gm_pass (k := (g + 62)) (y := .inl (ca 0, 4, .inl (iN (va_up pi kv_2 (pi (ne - 1)))))) h_22 (by omega)
    have h_30 := gm_up_self (gm_up (gm_up M (g + 60) (.inl (ca 0, 4, .inl (iN (va_up pp kv_2 (pp (ne - 1))))))) (g + 61) (.inl (ca 0, 4, .inl (iN (va_up po kv_2 (po (ne - 1))))))) (g + 62) (.inl (ca 0, 4, .inl (iN (va_up pi kv_2 (pi (ne - 1))))))
    have hf_31 : ∀ fi, fi < 16 → (gm_up (gm_up (gm_up M (g + 60) (.inl (ca 0, 4, .inl (iN (va_up pp kv_2 (pp (ne - 1))))))) (g + 61) (.inl (ca 0, 4, .inl (iN (va_up po kv_2 (po (ne - 1))))))) (g + 62) (.inl (ca 0, 4, .inl (iN (va_up pi kv_2 (pi (ne - 1))))))) (fa fi) = some (.inr (2, [.int (nI (fl fi 0)), .int (nI (fl fi 1)), .int (nI (fl fi 2)), .int (nI (fl fi 3)), .int (nI (fl fi 4)), .int (nI (fl fi 5)), .int (nI (fl fi 6)), .int (nI (fl fi 7))])) := fun fi hfi => gm_pass (k := (g + 62)) (y := .inl (ca 0, 4, .inl (iN (va_up pi kv_2 (pi (ne - 1)))))) (hf_23 fi hfi) (gm_ne (hf_23 fi hfi) h_18 (fun h => by cases h))
    have hP : gm_P D cls A N (gm_up (gm_up (gm_up (gm_up M (g + 60) (.inl (ca 0, 4, .inl (iN (va_up pp kv_2 (pp (ne - 1))))))) (g + 61) (.inl (ca 0, 4, .inl (iN (va_up po kv_2 (po (ne - 1))))))) (g + 62) (.inl (ca 0, 4, .inl (iN (va_up pi kv_2 (pi (ne - 1))))))) (g + 59) (.inr (1, [.ref (g + 60), .ref (g + 61), .ref (g + 62), .int (nI (ne - 1))]))) H := hP
    have h_32 := gm_pass (k := (g + 59)) (y := .inr (1, [.ref (g + 60), .ref (g + 61), .ref (g + 62), .int (nI (ne - 1))])) h_24 (gm_ne h_24 h_25 (fun h => by cases h))
    have h_33 := gm_pass (k := (g + 59)) (y := .inr (1, [.ref (g + 60), .ref (g + 61), .ref (g + 62), .int (nI (ne - 1))])) h_26 (gm_ne h_26 h_25 (fun h => by cases h))
    have h_34 := gm_pass (k := (g + 59)) (y := .inr (1, [.ref (g + 60), .ref (g + 61), .ref (g + 62), .int (nI (ne - 1))])) h_27 (gm_ne h_27 h_25 (fun h => by cases h))
    have h_35 := gm_pass (k := (g + 59)) (y := .inr (1, [.ref (g + 60), .ref (g + 61), .ref (g + 62), .int (nI (ne - 1))])) h_28 (gm_ne h_28 h_25 (fun h => by cases h))
    have h_36 := gm_pass (k := (g + 59)) (y := .inr (1, [.ref (g + 60), .ref (g + 61), .ref (g + 62), .int (nI (ne - 1))])) h_29 (gm_ne h_29 h_25 (fun h => by cases h))
    have h_37 := gm_pass (k := (g + 59)) (y := .inr (1, [.ref (g + 60), .ref (g + 61), .ref (g + 62), .int (nI (ne - 1))])) h_30 (gm_ne h_30 h_25 (fun h => by cases h))
    have h_38 := gm_up_self (gm_up (gm_up (gm_up M (g + 60) (.inl (ca 0, 4, .inl (iN (va_up pp kv_2 (pp (ne - 1))))))) (g + 61) (.inl (ca 0, 4, .inl (iN (va_up po kv_2 (po (ne - 1))))))) (g + 62) (.inl (ca 0, 4, .inl (iN (va_up pi kv_2 (pi (ne - 1))))))) (g + 59) (.inr (1, [.ref (g + 60), .ref (g + 61), .ref (g + 62), .int (nI (ne - 1))]))
    have hf_39 : ∀ fi, fi < 16 → (gm_up (gm_up (gm_up (gm_up M (g + 60) (.inl (ca 0, 4, .inl (iN (va_up pp kv_2 (pp (ne - 1))))))) (g + 61) (.inl (ca 0, 4, .inl (iN (va_up po kv_2 (po (ne - 1))))))) (g + 62) (.inl (ca 0, 4, .inl (iN (va_up pi kv_2 (pi (ne - 1))))))) (g + 59) (.inr (1, [.ref (g + 60), .ref (g + 61), .ref (g + 62), .int (nI (ne - 1))]))) (fa fi) = some (.inr (2, [.int (nI (fl fi 0)), .int (nI (fl fi 1)), .int (nI (fl fi 2)), .int (nI (fl fi 3)), .int (nI (fl fi 4)), .int (nI (fl fi 5)), .int (nI (fl fi 6)), .int (nI (fl fi 7))])) := fun fi hfi => gm_pass (k := (g + 59)) (y := .inr (1, [.ref (g + 60), .ref (g + 61), .ref (g + 62), .int (nI (ne - 1))])) (hf_31 fi hfi) (gm_ne (hf_31 fi hfi) h_25 (fun h => by cases h))
    refine W.eq (g2 := F0 m 25 ls []) rfl ?_
    refine lv_aload_n hx hb d_Pg_hide_25 rfl (lv_at hl 1 rfl) ?_
    refine gm_get (C := R_Pg) (T := F_Pg) (n := 15) hx hb htl i_Pg hown hK hP h_32 rfl 5 (by decide) (htl _ k_202) (fun _ h => h) rfl d_Pg_hide_26 ?_
    refine lv_iload_n hx hb d_Pg_hide_29 rfl (lv_at hl 2 rfl) ?_
    refine lv_iload_n hx hb d_Pg_hide_30 rfl (lv_at hl 3 rfl) ?_
    refine gc_V (q := (R_Ft, F_Ft, 2)) (n := 2) [.int (nI (pp kv_2)), .int (nI (po kv_2))] [] hx hb hml hown hts hK hN hX hP hS (c_Ft_endMapped h_33 h_34 hf_39 (by omega) hA hF (by omega) (by omega)) rfl h_33 k_538 k_539 k_540 k_7 k_541 (by decide +kernel) ⟨by decide, by decide⟩ rfl hl.1 rfl (Nat.le_of_ble_eq_true rfl) d_Pg_hide_31 ⟨by decide, by decide⟩ (fun r N1 M_40 H locs hw hP hS => ?_)
    obtain ⟨rfl, hw⟩ := hw
    obtain ⟨fa1v_41, fl1v_42, n1v_43, c_44, c_45, c_46, c_47, h_48, h_49, hfm_50, hfr_51⟩ := hw
    have h_52 := (hfr_51 _ (gm_ne h_32 h_33 (fun h => by cases h)) (gm_ne h_32 h_34 (fun h => by cases h))).trans h_32
    have h_53 := (hfr_51 _ (gm_ne h_35 h_33 (fun h => by cases h)) (gm_ne h_35 h_34 (fun h => by simp at h))).trans h_35
    have h_54 := (hfr_51 _ (gm_ne h_36 h_33 (fun h => by cases h)) (gm_ne h_36 h_34 (fun h => by simp at h))).trans h_36
    have h_55 := (hfr_51 _ (gm_ne h_37 h_33 (fun h => by cases h)) (gm_ne h_37 h_34 (fun h => by simp at h))).trans h_37
    have h_56 := (hfr_51 _ (gm_ne h_38 h_33 (fun h => by cases h)) (gm_ne h_38 h_34 (fun h => by cases h))).trans h_38
    have hfb_57 : ∀ i q, fl1v_42 i q < 1000000 := fun i q => (c_47 i).1 q
    refine W.eq (g2 := F0 m 34 ls []) rfl ?_
    refine lv_iconst (v := nI 0) hx hb d_Pg_hide_34 (by decide) ?_
    exact gc_iret hx hb hr hlk hP hS d_Pg_hide_35 ⟨rfl, Or.inr ⟨kv_2, fa1v_41, fl1v_42, n1v_43, c_3, ⟨rfl, rfl⟩, c_5, c_44, c_45, c_46, c_47, h_53, h_54, h_55, h_56, h_48, h_49, hfm_50, (fun z q0 q1 q2 q3 q4 q5 => (hfr_51 z q4 q5).trans ((gm_up_ne _ _ q3).trans ((gm_up_ne _ _ q2).trans ((gm_up_ne _ _ q1).trans ((gm_up_ne _ _ q0).trans (rfl)))))), rfl⟩⟩
  · skip
    refine W.eq (g2 := F0 m 9 ls [.int (-1)]) rfl ?_
    refine lv_istore_n (lv' := [(3, .int (-1)), (0, .ref g), (1, .int y), (2, .int y2)]) hx hb d_Pg_hide_9 rfl hl (by decide) rfl (fun ls hl => ?_)
    refine lv_iload_n hx hb d_Pg_hide_10 rfl (lv_at hl 0 rfl) ?_
    refine lv_iconst (v := (-1)) hx hb d_Pg_hide_11 (by decide) ?_
    refine lv_icmp_ne (tgt := 17) hx hb d_Pg_hide_12 (by decide) (fun q => absurd q (by decide)) (fun _ => ?_)
    refine lv_iconst (v := (-1)) hx hb d_Pg_hide_15 (by decide) ?_
    exact gc_iret hx hb hr hlk hP hS d_Pg_hide_16 ⟨rfl, Or.inl ⟨c_6, rfl, rfl⟩⟩
set_option maxHeartbeats 4000000 in
set_option maxRecDepth 100000 in
theorem c_Pg_expose (x1 x2 x3 x4 : Int32) {g cu be so ta tm lt nt : Nat} {bp : Int32} {ne : Nat} {pp : Nat → Nat} {po : Nat → Nat} {pi : Nat → Nat} {nf : Nat} {fa : Nat → Nat} {fl : Nat → Nat → Nat} (eg : M g = some (.inr (8, [.ref (g + 1), .ref (g + 3), .ref (g + 4), .ref (g + 57), .ref (g + 59), .ref (g + 63), .ref (g + 81), .ref cu, .ref be, .int (nI so), .int (nI ta), .int (nI tm), .int (nI lt), .int (nI nt), .int bp]))) (ex0 : M (g + 59) = some (.inr (1, [.ref (g + 60), .ref (g + 61), .ref (g + 62), .int (nI ne)]))) (ex1 : M (g + 60) = some (.inl (ca 0, 4, .inl (iN pp)))) (ex2 : M (g + 61) = some (.inl (ca 0, 4, .inl (iN po)))) (ex3 : M (g + 62) = some (.inl (ca 0, 4, .inl (iN pi)))) (ef : M (g + 63) = some (.inr (3, [.ref (g + 64), .int (nI nf)]))) (efa : M (g + 64) = some (.inl (ca 3, 16, .inr (.inr (.inr (.inr (oF fa))))))) (hne : ne ≤ 4) (hpp : ∀ k, pp k < 65536) (hpo : ∀ k, po k < 65536) (hpi : ∀ k, pi k < 65536) (hf : ∀ fi, fi < 16 → M (fa fi) = some (.inr (2, [.int (nI (fl fi 0)), .int (nI (fl fi 1)), .int (nI (fl fi 2)), .int (nI (fl fi 3)), .int (nI (fl fi 4)), .int (nI (fl fi 5)), .int (nI (fl fi 6)), .int (nI (fl fi 7))]))) (hnf : nf ≤ 16) (hA : okA (g + 65) fa) (hF : okF fl) : gC l D ca A G y_Pg_expose (.code y_Pg_expose b_Pg_expose 6 (some .int)) ({ frames := 3, cells := 0, slots := 0, locals := 69 }) N M [.ref g, .int x1, .int x2, .int x3, .int x4] gm_i (fun (r : Int32) (N1 : Nat) (M1 : gm_M) => N = N1 ∧ (((¬ (inr x1 2 ∧ inr x2 99 ∧ inr x3 127 ∧ inr x4 255)) ∧ M = M1 ∧ (-1) = r) ∨ (∃ (n1 : Nat) (n2 : Nat) (n3 : Nat) (n4 : Nat), (x1 = nI n1 ∧ n1 ≤ 2) ∧ (x2 = nI n2 ∧ n2 ≤ 99) ∧ (x3 = nI n3 ∧ n3 ≤ 127) ∧ (x4 = nI n4 ∧ n4 ≤ 255) ∧ (hasP ne pp po nf fl n1 n2 ∨ hasI ne pp pi nf fl n1 (n3 * 256 + n4)) ∧ M = M1 ∧ (-6) = r) ∨ (∃ (n1 : Nat) (n2 : Nat) (n3 : Nat) (n4 : Nat), (x1 = nI n1 ∧ n1 ≤ 2) ∧ (x2 = nI n2 ∧ n2 ≤ 99) ∧ (x3 = nI n3 ∧ n3 ≤ 127) ∧ (x4 = nI n4 ∧ n4 ≤ 255) ∧ (¬ (hasP ne pp po nf fl n1 n2 ∨ hasI ne pp pi nf fl n1 (n3 * 256 + n4))) ∧ (ne = 4) ∧ M = M1 ∧ (-3) = r) ∨ (∃ (n1 : Nat) (n2 : Nat) (n3 : Nat) (n4 : Nat), (x1 = nI n1 ∧ n1 ≤ 2) ∧ (x2 = nI n2 ∧ n2 ≤ 99) ∧ (x3 = nI n3 ∧ n3 ≤ 127) ∧ (x4 = nI n4 ∧ n4 ≤ 255) ∧ (¬ (hasP ne pp po nf fl n1 n2 ∨ hasI ne pp pi nf fl n1 (n3 * 256 + n4))) ∧ (ne < 4) ∧ gm_up (gm_up (gm_up (gm_up M (g + 60) (.inl (ca 0, 4, .inl (iN (va_up pp ne n1))))) (g + 61) (.inl (ca 0, 4, .inl (iN (va_up po ne n2))))) (g + 62) (.inl (ca 0, 4, .inl (iN (va_up pi ne (n3 * 256 + n4)))))) (g + 59) (.inr (1, [.ref (g + 60), .ref (g + 61), .ref (g + 62), .int (nI (ne + 1))])) = M1 ∧ nI 0 = r))) := by
  refine gm_body (by decide) (Nat.le_of_ble_eq_true rfl) (fun p e s m below meth c ls hx hb hr hts hown hlk hml hnm hP hK hN hX hS hl => ?_)
  have htl : ∀ w ∈ LW, w.before _ s = true := fun w h => hts w (List.mem_cons_of_mem _ h)
  have hown : s.vm.findClass "PacketGate" = some m.cls := hown
  have hl : lv_has ls 6 [(0, .ref g), (1, .int x1), (2, .int x2), (3, .int x3), (4, .int x4)] := hl
  have hfb : ∀ i q, fl i q < 1000000 := fun i q => (hF i).1 q
  refine lv_iload_n hx hb d_Pg_expose_0 rfl (lv_at hl 1 rfl) ?_
  refine gc_S (n := 1) [.int x1] [] hx hb hml hown hts hK hN hX hP hS (c_Pg_isProtocol x1) k_482 k_483 k_1 k_484 (by decide +kernel) ⟨by decide, by decide⟩ rfl hl.1 rfl (Nat.le_of_ble_eq_true rfl) d_Pg_expose_1 ⟨by decide, by decide⟩ (fun r N1 M_1 H locs hw hP hS => ?_)
  obtain ⟨rfl, hw⟩ := hw
  rcases hw with ⟨c_2, rfl, rfl⟩ | ⟨c_3, rfl, rfl⟩
  · skip
    refine W.eq (g2 := F0 m 4 ls [.int (nI 1)]) rfl ?_
    obtain ⟨x1n, hx1n, rfl⟩ := in_lift (by decide) c_2
    refine lv_if_eq (tgt := 36) hx hb d_Pg_expose_4 (by decide) (fun q => absurd q (by decide)) (fun _ => ?_)
    refine lv_iload_n hx hb d_Pg_expose_7 rfl (lv_at hl 2 rfl) ?_
    refine lv_bipush (v := nI 99) hx hb d_Pg_expose_8 (by decide) ?_
    refine gc_S (n := 2) [.int x2, .int (nI 99)] [] hx hb hml hown hts hK hN hX hP hS (c_Pg_isWithin x2 (nI 99)) k_485 k_251 k_1 k_252 (by decide +kernel) ⟨by decide, by decide⟩ rfl hl.1 rfl (Nat.le_of_ble_eq_true rfl) d_Pg_expose_10 ⟨by decide, by decide⟩ (fun r N1 M_4 H locs hw hP hS => ?_)
    obtain ⟨rfl, hw⟩ := hw
    rcases hw with ⟨c_5, rfl, rfl⟩ | ⟨c_6, rfl, rfl⟩
    · skip
      refine W.eq (g2 := F0 m 13 ls [.int (nI 1)]) rfl ?_
      obtain ⟨x2n, hx2n, rfl⟩ := in_lift (by decide) c_5
      refine lv_if_eq (tgt := 36) hx hb d_Pg_expose_13 (by decide) (fun q => absurd q (by decide)) (fun _ => ?_)
      refine lv_iload_n hx hb d_Pg_expose_16 rfl (lv_at hl 3 rfl) ?_
      refine lv_bipush (v := nI 127) hx hb d_Pg_expose_17 (by decide) ?_
      refine gc_S (n := 2) [.int x3, .int (nI 127)] [] hx hb hml hown hts hK hN hX hP hS (c_Pg_isWithin x3 (nI 127)) k_485 k_251 k_1 k_252 (by decide +kernel) ⟨by decide, by decide⟩ rfl hl.1 rfl (Nat.le_of_ble_eq_true rfl) d_Pg_expose_19 ⟨by decide, by decide⟩ (fun r N1 M_7 H locs hw hP hS => ?_)
      obtain ⟨rfl, hw⟩ := hw
      rcases hw with ⟨c_8, rfl, rfl⟩ | ⟨c_9, rfl, rfl⟩
      · skip
        refine W.eq (g2 := F0 m 22 ls [.int (nI 1)]) rfl ?_
        obtain ⟨x3n, hx3n, rfl⟩ := in_lift (by decide) c_8
        refine lv_if_eq (tgt := 36) hx hb d_Pg_expose_22 (by decide) (fun q => absurd q (by decide)) (fun _ => ?_)
        refine lv_iload hx hb d_Pg_expose_25 (lv_at hl 4 rfl) ?_
        refine lv_sipush (v := nI 255) hx hb d_Pg_expose_27 (by decide) ?_
        refine gc_S (n := 2) [.int x4, .int (nI 255)] [] hx hb hml hown hts hK hN hX hP hS (c_Pg_isWithin x4 (nI 255)) k_485 k_251 k_1 k_252 (by decide +kernel) ⟨by decide, by decide⟩ rfl hl.1 rfl (Nat.le_of_ble_eq_true rfl) d_Pg_expose_30 ⟨by decide, by decide⟩ (fun r N1 M_10 H locs hw hP hS => ?_)
        obtain ⟨rfl, hw⟩ := hw
        rcases hw with ⟨c_11, rfl, rfl⟩ | ⟨c_12, rfl, rfl⟩
        · skip
          refine W.eq (g2 := F0 m 33 ls [.int (nI 1)]) rfl ?_
          obtain ⟨x4n, hx4n, rfl⟩ := in_lift (by decide) c_11
          refine lv_if_ne (tgt := 38) hx hb d_Pg_expose_33 (by decide) (fun _ => ?_) (fun q => absurd q (by decide))
          refine lv_iload_n hx hb d_Pg_expose_38 rfl (lv_at hl 3 rfl) ?_
          refine lv_iload hx hb d_Pg_expose_39 (lv_at hl 4 rfl) ?_
          refine gc_S (n := 2) [.int (nI x3n), .int (nI x4n)] [] hx hb hml hown hts hK hN hX hP hS (c_Pg_endpoint x3n x4n) k_486 k_487 k_1 k_488 (by decide +kernel) ⟨by decide, by decide⟩ rfl hl.1 rfl (Nat.le_of_ble_eq_true rfl) d_Pg_expose_41 ⟨by decide, by decide⟩ (fun r N1 M_13 H locs hw hP hS => ?_)
          obtain ⟨rfl, hw⟩ := hw
          obtain ⟨rfl, rfl⟩ := hw
          refine W.eq (g2 := F0 m 44 ls [.int (nI (x3n * 256 + x4n))]) rfl ?_
          refine lv_istore (lv' := [(5, .int (nI (x3n * 256 + x4n))), (0, .ref g), (1, .int (nI x1n)), (2, .int (nI x2n)), (3, .int (nI x3n)), (4, .int (nI x4n))]) hx hb d_Pg_expose_44 hl (by decide) rfl (fun ls hl => ?_)
          refine lv_aload_n hx hb d_Pg_expose_46 rfl (lv_at hl 1 rfl) ?_
          refine lv_iload_n hx hb d_Pg_expose_47 rfl (lv_at hl 2 rfl) ?_
          refine lv_iload_n hx hb d_Pg_expose_48 rfl (lv_at hl 3 rfl) ?_
          refine gc_V (q := (R_Pg, F_Pg, 15)) (n := 2) [.int (nI x1n), .int (nI x2n)] [] hx hb hml hown hts hK hN hX hP hS (c_Pg_mappedEndpoint eg ex0 ex1 ex2 ex3 ef efa (by omega) hpp hpo hpi hf (by omega) hA hF (by omega) (by omega)) rfl eg k_489 k_491 ks_Pg_mappedEndpoint k_1 k_492 (by decide +kernel) ⟨by decide, by decide⟩ rfl hl.1 rfl (Nat.le_of_ble_eq_true rfl) d_Pg_expose_49 ⟨by decide, by decide⟩ (fun r N1 M_14 H locs hw hP hS => ?_)
          obtain ⟨rfl, hw⟩ := hw
          rcases hw with ⟨kv_15, c_16, c_17, c_18, rfl, rfl⟩ | ⟨kv_19, c_20, c_21, c_22, c_23, rfl, rfl⟩ | ⟨c_24, c_25, rfl, rfl⟩
          · skip
            refine W.eq (g2 := F0 m 52 ls [.int (nI (pi kv_15))]) rfl ?_
            have b_26 := hpi kv_15
            refine lv_iconst (v := (-1)) hx hb d_Pg_expose_52 (by decide) ?_
            refine lv_icmp_ne (tgt := 67) hx hb d_Pg_expose_53 (by decide) (fun _ => ?_) (fun q => absurd q (nI_nm1 (by omega)))
            refine lv_bipush (v := (-6)) hx hb d_Pg_expose_67 (by decide) ?_
            exact gc_iret hx hb hr hlk hP hS d_Pg_expose_69 ⟨rfl, Or.inr (Or.inl ⟨x1n, x2n, x3n, x4n, ⟨rfl, by assumption⟩, ⟨rfl, by assumption⟩, ⟨rfl, by assumption⟩, ⟨rfl, by assumption⟩, Or.inl (Or.inl ⟨kv_15, c_16, c_17⟩), rfl, rfl⟩)⟩
          · skip
            refine W.eq (g2 := F0 m 52 ls [.int (nI (fl kv_19 1))]) rfl ?_
            have b_27 := (hF kv_19).1 1
            refine lv_iconst (v := (-1)) hx hb d_Pg_expose_52 (by decide) ?_
            refine lv_icmp_ne (tgt := 67) hx hb d_Pg_expose_53 (by decide) (fun _ => ?_) (fun q => absurd q (nI_nm1 (by omega)))
            refine lv_bipush (v := (-6)) hx hb d_Pg_expose_67 (by decide) ?_
            exact gc_iret hx hb hr hlk hP hS d_Pg_expose_69 ⟨rfl, Or.inr (Or.inl ⟨x1n, x2n, x3n, x4n, ⟨rfl, by assumption⟩, ⟨rfl, by assumption⟩, ⟨rfl, by assumption⟩, ⟨rfl, by assumption⟩, Or.inl (Or.inr ⟨kv_19, c_21, c_22⟩), rfl, rfl⟩)⟩
          · skip
            refine W.eq (g2 := F0 m 52 ls [.int (-1)]) rfl ?_
            refine lv_iconst (v := (-1)) hx hb d_Pg_expose_52 (by decide) ?_
            refine lv_icmp_ne (tgt := 67) hx hb d_Pg_expose_53 (by decide) (fun q => absurd q (by decide)) (fun _ => ?_)
            refine lv_aload_n hx hb d_Pg_expose_56 rfl (lv_at hl 1 rfl) ?_
            refine lv_iload_n hx hb d_Pg_expose_57 rfl (lv_at hl 2 rfl) ?_
            refine lv_iload hx hb d_Pg_expose_58 (lv_at hl 0 rfl) ?_
            refine gc_V (q := (R_Pg, F_Pg, 15)) (n := 2) [.int (nI x1n), .int (nI (x3n * 256 + x4n))] [] hx hb hml hown hts hK hN hX hP hS (c_Pg_mappedPort eg ex0 ex1 ex2 ex3 ef efa (by omega) hpp hpo hpi hf (by omega) hA hF (by omega) (by omega)) rfl eg k_509 k_511 ks_Pg_mappedPort k_1 k_512 (by decide +kernel) ⟨by decide, by decide⟩ rfl hl.1 rfl (Nat.le_of_ble_eq_true rfl) d_Pg_expose_60 ⟨by decide, by decide⟩ (fun r N1 M_28 H locs hw hP hS => ?_)
            obtain ⟨rfl, hw⟩ := hw
            rcases hw with ⟨kv_29, c_30, c_31, c_32, rfl, rfl⟩ | ⟨kv_33, c_34, c_35, c_36, c_37, rfl, rfl⟩ | ⟨c_38, c_39, rfl, rfl⟩
            · skip
              refine W.eq (g2 := F0 m 63 ls [.int (nI (po kv_29))]) rfl ?_
              have b_40 := hpo kv_29
              refine lv_iconst (v := (-1)) hx hb d_Pg_expose_63 (by decide) ?_
              refine lv_icmp_eq (tgt := 70) hx hb d_Pg_expose_64 (by decide) (fun q => absurd q (nI_nm1 (by omega))) (fun _ => ?_)
              refine lv_bipush (v := (-6)) hx hb d_Pg_expose_67 (by decide) ?_
              exact gc_iret hx hb hr hlk hP hS d_Pg_expose_69 ⟨rfl, Or.inr (Or.inl ⟨x1n, x2n, x3n, x4n, ⟨rfl, by assumption⟩, ⟨rfl, by assumption⟩, ⟨rfl, by assumption⟩, ⟨rfl, by assumption⟩, Or.inr (Or.inl ⟨kv_29, c_30, c_31⟩), rfl, rfl⟩)⟩
            · skip
              refine W.eq (g2 := F0 m 63 ls [.int (nI (fl kv_33 3))]) rfl ?_
              have b_41 := (hF kv_33).1 3
              refine lv_iconst (v := (-1)) hx hb d_Pg_expose_63 (by decide) ?_
              refine lv_icmp_eq (tgt := 70) hx hb d_Pg_expose_64 (by decide) (fun q => absurd q (nI_nm1 (by omega))) (fun _ => ?_)
              refine lv_bipush (v := (-6)) hx hb d_Pg_expose_67 (by decide) ?_
              exact gc_iret hx hb hr hlk hP hS d_Pg_expose_69 ⟨rfl, Or.inr (Or.inl ⟨x1n, x2n, x3n, x4n, ⟨rfl, by assumption⟩, ⟨rfl, by assumption⟩, ⟨rfl, by assumption⟩, ⟨rfl, by assumption⟩, Or.inr (Or.inr ⟨kv_33, c_35, c_36⟩), rfl, rfl⟩)⟩
            · skip
              refine W.eq (g2 := F0 m 63 ls [.int (-1)]) rfl ?_
              refine lv_iconst (v := (-1)) hx hb d_Pg_expose_63 (by decide) ?_
              refine lv_icmp_eq (tgt := 70) hx hb d_Pg_expose_64 (by decide) (fun _ => ?_) (fun q => absurd q (by decide))
              refine lv_aload_n hx hb d_Pg_expose_70 rfl (lv_at hl 1 rfl) ?_
              refine gm_get (C := R_Pg) (T := F_Pg) (n := 15) hx hb htl i_Pg hown hK hP eg rfl 4 (by decide) (htl _ k_201) (fun _ h => h) rfl d_Pg_expose_71 ?_
              refine gc_V (q := (R_Ex, F_Ex, 4)) (n := 0) [] [] hx hb hml hown hts hK hN hX hP hS (c_Ex_isFull ex0 ex1 ex2 ex3 (by omega) hpp hpo hpi) rfl ex0 k_521 k_522 k_523 k_6 k_524 (by decide +kernel) ⟨by decide, by decide⟩ rfl hl.1 rfl (Nat.le_of_ble_eq_true rfl) d_Pg_expose_74 ⟨by decide, by decide⟩ (fun r N1 M_42 H locs hw hP hS => ?_)
              obtain ⟨rfl, hw⟩ := hw
              rcases hw with ⟨c_43, rfl, rfl⟩ | ⟨c_44, rfl, rfl⟩
              · skip
                refine W.eq (g2 := F0 m 77 ls [.int (nI 1)]) rfl ?_
                refine lv_if_eq (tgt := 83) hx hb d_Pg_expose_77 (by decide) (fun q => absurd q (by decide)) (fun _ => ?_)
                refine lv_bipush (v := (-3)) hx hb d_Pg_expose_80 (by decide) ?_
                exact gc_iret hx hb hr hlk hP hS d_Pg_expose_82 ⟨rfl, Or.inr (Or.inr (Or.inl ⟨x1n, x2n, x3n, x4n, ⟨rfl, by assumption⟩, ⟨rfl, by assumption⟩, ⟨rfl, by assumption⟩, ⟨rfl, by assumption⟩, (fun h => h.elim (fun h => h.elim (fun ⟨j, a, b⟩ => c_24 j a b) (fun ⟨j, a, b⟩ => c_25 j a b)) (fun h => h.elim (fun ⟨j, a, b⟩ => c_38 j a b) (fun ⟨j, a, b⟩ => c_39 j a b))), by omega, rfl, rfl⟩))⟩
              · skip
                refine W.eq (g2 := F0 m 77 ls [.int (nI 0)]) rfl ?_
                refine lv_if_eq (tgt := 83) hx hb d_Pg_expose_77 (by decide) (fun _ => ?_) (fun q => absurd q (by decide))
                refine lv_aload_n hx hb d_Pg_expose_83 rfl (lv_at hl 1 rfl) ?_
                refine gm_get (C := R_Pg) (T := F_Pg) (n := 15) hx hb htl i_Pg hown hK hP eg rfl 4 (by decide) (htl _ k_201) (fun _ h => h) rfl d_Pg_expose_84 ?_
                refine lv_iload_n hx hb d_Pg_expose_87 rfl (lv_at hl 2 rfl) ?_
                refine lv_iload_n hx hb d_Pg_expose_88 rfl (lv_at hl 3 rfl) ?_
                refine lv_iload hx hb d_Pg_expose_89 (lv_at hl 0 rfl) ?_
                refine gc_V (q := (R_Ex, F_Ex, 4)) (n := 3) [.int (nI x1n), .int (nI x2n), .int (nI (x3n * 256 + x4n))] [] hx hb hml hown hts hK hN hX hP hS (c_Ex_add ex0 ex1 ex2 ex3 (by omega) hpp hpo hpi (by omega) (by omega) (by omega) (by omega)) rfl ex0 k_525 k_526 k_527 k_6 k_528 (by decide +kernel) ⟨by decide, by decide⟩ rfl hl.1 rfl (Nat.le_of_ble_eq_true rfl) d_Pg_expose_91 ⟨by decide, by decide⟩ (fun r N1 M_45 H locs hw hP hS => ?_)
                obtain ⟨rfl, hw⟩ := hw
                obtain rfl := hw
                have h_46 := gm_pass (k := (g + 60)) (y := .inl (ca 0, 4, .inl (iN (va_up pp ne x1n)))) eg (gm_ne eg ex1 (fun h => by cases h))
                have h_47 := gm_pass (k := (g + 60)) (y := .inl (ca 0, 4, .inl (iN (va_up pp ne x1n)))) ex0 (gm_ne ex0 ex1 (fun h => by cases h))
                have h_48 := gm_pass (k := (g + 60)) (y := .inl (ca 0, 4, .inl (iN (va_up pp ne x1n)))) ex2 (by omega)
                have h_49 := gm_pass (k := (g + 60)) (y := .inl (ca 0, 4, .inl (iN (va_up pp ne x1n)))) ex3 (by omega)
                have h_50 := gm_pass (k := (g + 60)) (y := .inl (ca 0, 4, .inl (iN (va_up pp ne x1n)))) ef (gm_ne ef ex1 (fun h => by cases h))
                have h_51 := gm_pass (k := (g + 60)) (y := .inl (ca 0, 4, .inl (iN (va_up pp ne x1n)))) efa (gm_ne efa ex1 (fun h => by simp at h))
                have h_52 := gm_up_self M (g + 60) (.inl (ca 0, 4, .inl (iN (va_up pp ne x1n))))
                have hf_53 : ∀ fi, fi < 16 → (gm_up M (g + 60) (.inl (ca 0, 4, .inl (iN (va_up pp ne x1n))))) (fa fi) = some (.inr (2, [.int (nI (fl fi 0)), .int (nI (fl fi 1)), .int (nI (fl fi 2)), .int (nI (fl fi 3)), .int (nI (fl fi 4)), .int (nI (fl fi 5)), .int (nI (fl fi 6)), .int (nI (fl fi 7))])) := fun fi hfi => gm_pass (k := (g + 60)) (y := .inl (ca 0, 4, .inl (iN (va_up pp ne x1n)))) (hf fi hfi) (gm_ne (hf fi hfi) ex1 (fun h => by cases h))
                have h_54 := gm_pass (k := (g + 61)) (y := .inl (ca 0, 4, .inl (iN (va_up po ne x2n)))) h_46 (gm_ne h_46 h_48 (fun h => by cases h))
                have h_55 := gm_pass (k := (g + 61)) (y := .inl (ca 0, 4, .inl (iN (va_up po ne x2n)))) h_47 (gm_ne h_47 h_48 (fun h => by cases h))
                have h_56 := gm_pass (k := (g + 61)) (y := .inl (ca 0, 4, .inl (iN (va_up po ne x2n)))) h_49 (by omega)
                have h_57 := gm_pass (k := (g + 61)) (y := .inl (ca 0, 4, .inl (iN (va_up po ne x2n)))) h_50 (gm_ne h_50 h_48 (fun h => by cases h))
                have h_58 := gm_pass (k := (g + 61)) (y := .inl (ca 0, 4, .inl (iN (va_up po ne x2n)))) h_51 (gm_ne h_51 h_48 (fun h => by simp at h))
                have h_59 := gm_pass (k := (g + 61)) (y := .inl (ca 0, 4, .inl (iN (va_up po ne x2n)))) h_52 (by omega)
                have h_60 := gm_up_self (gm_up M (g + 60) (.inl (ca 0, 4, .inl (iN (va_up pp ne x1n))))) (g + 61) (.inl (ca 0, 4, .inl (iN (va_up po ne x2n))))
                have hf_61 : ∀ fi, fi < 16 → (gm_up (gm_up M (g + 60) (.inl (ca 0, 4, .inl (iN (va_up pp ne x1n))))) (g + 61) (.inl (ca 0, 4, .inl (iN (va_up po ne x2n))))) (fa fi) = some (.inr (2, [.int (nI (fl fi 0)), .int (nI (fl fi 1)), .int (nI (fl fi 2)), .int (nI (fl fi 3)), .int (nI (fl fi 4)), .int (nI (fl fi 5)), .int (nI (fl fi 6)), .int (nI (fl fi 7))])) := fun fi hfi => gm_pass (k := (g + 61)) (y := .inl (ca 0, 4, .inl (iN (va_up po ne x2n)))) (hf_53 fi hfi) (gm_ne (hf_53 fi hfi) h_48 (fun h => by cases h))
                have h_62 := gm_pass (k := (g + 62)) (y := .inl (ca 0, 4, .inl (iN (va_up pi ne (x3n * 256 + x4n))))) h_54 (gm_ne h_54 h_56 (fun h => by cases h))
                have h_63 := gm_pass (k := (g + 62)) (y := .inl (ca 0, 4, .inl (iN (va_up pi ne (x3n * 256 + x4n))))) h_55 (gm_ne h_55 h_56 (fun h => by cases h))
                have h_64 := gm_pass (k := (g + 62)) (y := .inl (ca 0, 4, .inl (iN (va_up pi ne (x3n * 256 + x4n))))) h_57 (gm_ne h_57 h_56 (fun h => by cases h))
                have h_65 := gm_pass (k := (g + 62)) (y := .inl (ca 0, 4, .inl (iN (va_up pi ne (x3n * 256 + x4n))))) h_58 (gm_ne h_58 h_56 (fun h => by simp at h))
                have h_66 := gm_pass (k := (g + 62)) (y := .inl (ca 0, 4, .inl (iN (va_up pi ne (x3n * 256 + x4n))))) h_59 (by omega)
                have h_67 := gm_pass (k := (g + 62)) (y := .inl (ca 0, 4, .inl (iN (va_up pi ne (x3n * 256 + x4n))))) h_60 (by omega)
                have h_68 := gm_up_self (gm_up (gm_up M (g + 60) (.inl (ca 0, 4, .inl (iN (va_up pp ne x1n))))) (g + 61) (.inl (ca 0, 4, .inl (iN (va_up po ne x2n))))) (g + 62) (.inl (ca 0, 4, .inl (iN (va_up pi ne (x3n * 256 + x4n)))))
                have hf_69 : ∀ fi, fi < 16 → (gm_up (gm_up (gm_up M (g + 60) (.inl (ca 0, 4, .inl (iN (va_up pp ne x1n))))) (g + 61) (.inl (ca 0, 4, .inl (iN (va_up po ne x2n))))) (g + 62) (.inl (ca 0, 4, .inl (iN (va_up pi ne (x3n * 256 + x4n)))))) (fa fi) = some (.inr (2, [.int (nI (fl fi 0)), .int (nI (fl fi 1)), .int (nI (fl fi 2)), .int (nI (fl fi 3)), .int (nI (fl fi 4)), .int (nI (fl fi 5)), .int (nI (fl fi 6)), .int (nI (fl fi 7))])) := fun fi hfi => gm_pass (k := (g + 62)) (y := .inl (ca 0, 4, .inl (iN (va_up pi ne (x3n * 256 + x4n))))) (hf_61 fi hfi) (gm_ne (hf_61 fi hfi) h_56 (fun h => by cases h))
                have hP : gm_P D cls A N (gm_up (gm_up (gm_up (gm_up M (g + 60) (.inl (ca 0, 4, .inl (iN (va_up pp ne x1n))))) (g + 61) (.inl (ca 0, 4, .inl (iN (va_up po ne x2n))))) (g + 62) (.inl (ca 0, 4, .inl (iN (va_up pi ne (x3n * 256 + x4n)))))) (g + 59) (.inr (1, [.ref (g + 60), .ref (g + 61), .ref (g + 62), .int (nI (ne + 1))]))) H := hP
                have h_70 := gm_pass (k := (g + 59)) (y := .inr (1, [.ref (g + 60), .ref (g + 61), .ref (g + 62), .int (nI (ne + 1))])) h_62 (gm_ne h_62 h_63 (fun h => by cases h))
                have h_71 := gm_pass (k := (g + 59)) (y := .inr (1, [.ref (g + 60), .ref (g + 61), .ref (g + 62), .int (nI (ne + 1))])) h_64 (gm_ne h_64 h_63 (fun h => by cases h))
                have h_72 := gm_pass (k := (g + 59)) (y := .inr (1, [.ref (g + 60), .ref (g + 61), .ref (g + 62), .int (nI (ne + 1))])) h_65 (gm_ne h_65 h_63 (fun h => by cases h))
                have h_73 := gm_pass (k := (g + 59)) (y := .inr (1, [.ref (g + 60), .ref (g + 61), .ref (g + 62), .int (nI (ne + 1))])) h_66 (gm_ne h_66 h_63 (fun h => by cases h))
                have h_74 := gm_pass (k := (g + 59)) (y := .inr (1, [.ref (g + 60), .ref (g + 61), .ref (g + 62), .int (nI (ne + 1))])) h_67 (gm_ne h_67 h_63 (fun h => by cases h))
                have h_75 := gm_pass (k := (g + 59)) (y := .inr (1, [.ref (g + 60), .ref (g + 61), .ref (g + 62), .int (nI (ne + 1))])) h_68 (gm_ne h_68 h_63 (fun h => by cases h))
                have h_76 := gm_up_self (gm_up (gm_up (gm_up M (g + 60) (.inl (ca 0, 4, .inl (iN (va_up pp ne x1n))))) (g + 61) (.inl (ca 0, 4, .inl (iN (va_up po ne x2n))))) (g + 62) (.inl (ca 0, 4, .inl (iN (va_up pi ne (x3n * 256 + x4n)))))) (g + 59) (.inr (1, [.ref (g + 60), .ref (g + 61), .ref (g + 62), .int (nI (ne + 1))]))
                have hf_77 : ∀ fi, fi < 16 → (gm_up (gm_up (gm_up (gm_up M (g + 60) (.inl (ca 0, 4, .inl (iN (va_up pp ne x1n))))) (g + 61) (.inl (ca 0, 4, .inl (iN (va_up po ne x2n))))) (g + 62) (.inl (ca 0, 4, .inl (iN (va_up pi ne (x3n * 256 + x4n)))))) (g + 59) (.inr (1, [.ref (g + 60), .ref (g + 61), .ref (g + 62), .int (nI (ne + 1))]))) (fa fi) = some (.inr (2, [.int (nI (fl fi 0)), .int (nI (fl fi 1)), .int (nI (fl fi 2)), .int (nI (fl fi 3)), .int (nI (fl fi 4)), .int (nI (fl fi 5)), .int (nI (fl fi 6)), .int (nI (fl fi 7))])) := fun fi hfi => gm_pass (k := (g + 59)) (y := .inr (1, [.ref (g + 60), .ref (g + 61), .ref (g + 62), .int (nI (ne + 1))])) (hf_69 fi hfi) (gm_ne (hf_69 fi hfi) h_63 (fun h => by cases h))
                refine W.eq (g2 := F0 m 94 ls []) rfl ?_
                refine lv_iconst (v := nI 0) hx hb d_Pg_expose_94 (by decide) ?_
                exact gc_iret hx hb hr hlk hP hS d_Pg_expose_95 ⟨rfl, Or.inr (Or.inr (Or.inr ⟨x1n, x2n, x3n, x4n, ⟨rfl, by assumption⟩, ⟨rfl, by assumption⟩, ⟨rfl, by assumption⟩, ⟨rfl, by assumption⟩, (fun h => h.elim (fun h => h.elim (fun ⟨j, a, b⟩ => c_24 j a b) (fun ⟨j, a, b⟩ => c_25 j a b)) (fun h => h.elim (fun ⟨j, a, b⟩ => c_38 j a b) (fun ⟨j, a, b⟩ => c_39 j a b))), by omega, rfl, rfl⟩))⟩
        · skip
          refine W.eq (g2 := F0 m 33 ls [.int (nI 0)]) rfl ?_
          refine lv_if_ne (tgt := 38) hx hb d_Pg_expose_33 (by decide) (fun q => absurd q (by decide)) (fun _ => ?_)
          refine lv_iconst (v := (-1)) hx hb d_Pg_expose_36 (by decide) ?_
          exact gc_iret hx hb hr hlk hP hS d_Pg_expose_37 ⟨rfl, Or.inl ⟨(by first | exact fun h => not_inr (by decide) (by assumption) h.1 | exact fun h => not_inr (by decide) (by assumption) h.2.1 | exact fun h => not_inr (by decide) (by assumption) h.2.2.1 | exact fun h => not_inr (by decide) (by assumption) h.2.2.2), rfl, rfl⟩⟩
      · skip
        refine W.eq (g2 := F0 m 22 ls [.int (nI 0)]) rfl ?_
        refine lv_if_eq (tgt := 36) hx hb d_Pg_expose_22 (by decide) (fun _ => ?_) (fun q => absurd q (by decide))
        refine lv_iconst (v := (-1)) hx hb d_Pg_expose_36 (by decide) ?_
        exact gc_iret hx hb hr hlk hP hS d_Pg_expose_37 ⟨rfl, Or.inl ⟨(by first | exact fun h => not_inr (by decide) (by assumption) h.1 | exact fun h => not_inr (by decide) (by assumption) h.2.1 | exact fun h => not_inr (by decide) (by assumption) h.2.2.1 | exact fun h => not_inr (by decide) (by assumption) h.2.2.2), rfl, rfl⟩⟩
    · skip
      refine W.eq (g2 := F0 m 13 ls [.int (nI 0)]) rfl ?_
      refine lv_if_eq (tgt := 36) hx hb d_Pg_expose_13 (by decide) (fun _ => ?_) (fun q => absurd q (by decide))
      refine lv_iconst (v := (-1)) hx hb d_Pg_expose_36 (by decide) ?_
      exact gc_iret hx hb hr hlk hP hS d_Pg_expose_37 ⟨rfl, Or.inl ⟨(by first | exact fun h => not_inr (by decide) (by assumption) h.1 | exact fun h => not_inr (by decide) (by assumption) h.2.1 | exact fun h => not_inr (by decide) (by assumption) h.2.2.1 | exact fun h => not_inr (by decide) (by assumption) h.2.2.2), rfl, rfl⟩⟩
  · skip
    refine W.eq (g2 := F0 m 4 ls [.int (nI 0)]) rfl ?_
    refine lv_if_eq (tgt := 36) hx hb d_Pg_expose_4 (by decide) (fun _ => ?_) (fun q => absurd q (by decide))
    refine lv_iconst (v := (-1)) hx hb d_Pg_expose_36 (by decide) ?_
    exact gc_iret hx hb hr hlk hP hS d_Pg_expose_37 ⟨rfl, Or.inl ⟨(by first | exact fun h => not_inr (by decide) (by assumption) h.1 | exact fun h => not_inr (by decide) (by assumption) h.2.1 | exact fun h => not_inr (by decide) (by assumption) h.2.2.1 | exact fun h => not_inr (by decide) (by assumption) h.2.2.2), rfl, rfl⟩⟩
end C22
