section C24
variable {l : Launch} {D : va_G} {ca : Nat → ClassId} {A : Nat → Prop} {G : gG} {N : Nat} {M : gm_M}

set_option maxHeartbeats 4000000 in
set_option maxRecDepth 100000 in
theorem c_Pg_install {g cu be so ta tm lt nt : Nat} {bp : Int32} {t : List Nat} {f : Nat → Int32} {rp : Nat} {nr : Nat} {ra : Nat → Nat} {ru lw hw : Nat → Nat → Nat} {a0 a1 a2 : Int32} (eg : M g = some (.inr (8, [.ref (g + 1), .ref (g + 3), .ref (g + 4), .ref (g + 57), .ref (g + 59), .ref (g + 63), .ref (g + 81), .ref cu, .ref be, .int (nI so), .int (nI ta), .int (nI tm), .int (nI lt), .int (nI nt), .int bp]))) (el : M (g + 1) = some (.inr (4, [.ref (g + 2), .int (nI t.length)]))) (ec : M (g + 2) = some (.inl (ca 1, 40, .inl f))) (er : M (g + 3) = some (.inr (7, [.int (nI rp)]))) (eb : M (g + 4) = some (.inr (6, [.ref (g + 5), .int (nI nr)]))) (ea : M (g + 5) = some (.inl (ca 2, 17, .inr (.inr (.inr (.inr (oF ra))))))) (esp : M (ra nr) = some (.inr (5, [.int a0, .int a1, .int a2, .ref (ra nr + 1), .ref (ra nr + 2)]))) (htl : t.length ≤ 40) (htx : txt f t) (hcs : ∀ c ∈ t, c < 256) (hr1 : ∀ fi, fi < nr → M (ra fi) = some (.inr (5, [.int (nI (ru fi 0)), .int (nI (ru fi 1)), .int (nI (ru fi 2)), .ref (ra fi + 1), .ref (ra fi + 2)]))) (hr2 : ∀ fi, fi < 17 → M (ra fi + 1) = some (.inl (ca 0, 3, .inl (iN (lw fi))))) (hr3 : ∀ fi, fi < 17 → M (ra fi + 2) = some (.inl (ca 0, 3, .inl (iN (hw fi))))) (hnr : nr ≤ 16) (hR : okR (g + 6) ra) (hU : okU nr ru lw hw) : gC l D ca A G y_Pg_install (.code y_Pg_install b_Pg_install 2 (some .int)) ({ frames := 8, cells := 0, slots := 0, locals := 178 }) N M [.ref g] gm_i (fun (r : Int32) (N1 : Nat) (M1 : gm_M) => N = N1 ∧ (((nr = 16) ∧ gm_up M (g + 1) (.inr (4, [.ref (g + 2), .int (nI ([] : List Nat).length)])) = M1 ∧ (-3) = r) ∨ (∃ (k0 : Nat) (k1 : Nat) (k2 : Nat) (m1 : Nat) (m2 : Nat) (m3v : Nat) (n1 : Nat) (n2 : Nat) (n3 : Nat) (p1 : Nat), (nr < 16) ∧ (prs t = (some [k0, k1, k2, m1, m2, m3v, n1, n2, n3], p1)) ∧ (k0 < 3 ∧ k1 < 3 ∧ k2 < 4 ∧ m1 ≤ 255 ∧ m2 ≤ 255 ∧ m3v ≤ 255 ∧ n1 ≤ 255 ∧ n2 ≤ 255 ∧ n3 ≤ 255) ∧ M1 g = some (.inr (8, [.ref (g + 1), .ref (g + 3), .ref (g + 4), .ref (g + 57), .ref (g + 59), .ref (g + 63), .ref (g + 81), .ref cu, .ref be, .int (nI so), .int (nI ta), .int (nI tm), .int (nI lt), .int (nI nt), .int bp])) ∧ M1 (g + 3) = some (.inr (7, [.int (nI p1)])) ∧ M1 (ra nr) = some (.inr (5, [.int (nI k0), .int (nI k1), .int (nI k2), .ref (ra nr + 1), .ref (ra nr + 2)])) ∧ M1 (ra nr + 1) = some (.inl (ca 0, 3, .inl (iN (va_up (va_up (va_up (lw nr) 0 m1) 1 m2) 2 m3v)))) ∧ M1 (ra nr + 2) = some (.inl (ca 0, 3, .inl (iN (va_up (va_up (va_up (hw nr) 0 n1) 1 n2) 2 n3)))) ∧ M1 (g + 4) = some (.inr (6, [.ref (g + 5), .int (nI (nr + 1))])) ∧ M1 (g + 1) = some (.inr (4, [.ref (g + 2), .int (nI ([] : List Nat).length)])) ∧ (∀ fi, fi < (nr + 1) → M1 (ra fi) = some (.inr (5, [.int (nI ((va_up ru nr (m3 k0 k1 k2)) fi 0)), .int (nI ((va_up ru nr (m3 k0 k1 k2)) fi 1)), .int (nI ((va_up ru nr (m3 k0 k1 k2)) fi 2)), .ref (ra fi + 1), .ref (ra fi + 2)]))) ∧ (∀ fi, fi < 17 → M1 (ra fi + 1) = some (.inl (ca 0, 3, .inl (iN ((va_up lw nr (va_up (va_up (va_up (lw nr) 0 m1) 1 m2) 2 m3v)) fi))))) ∧ (∀ fi, fi < 17 → M1 (ra fi + 2) = some (.inl (ca 0, 3, .inl (iN ((va_up hw nr (va_up (va_up (va_up (hw nr) 0 n1) 1 n2) 2 n3)) fi))))) ∧ (∀ z, z ≠ g → z ≠ (g + 3) → z ≠ (ra nr) → z ≠ (ra nr + 1) → z ≠ (ra nr + 2) → z ≠ (g + 4) → z ≠ (g + 1) → M1 z = M z) ∧ nI (nr + 1) = r) ∨ (∃ (b0 : Int32) (b1 : Int32) (b2 : Int32) (lw1 : Nat → Nat) (hw1 : Nat → Nat) (p1 : Nat), (nr < 16) ∧ (prs t = (none, p1)) ∧ (p1 ≤ 50) ∧ (∀ q, lw1 q ≤ 255) ∧ (∀ q, hw1 q ≤ 255) ∧ M1 g = some (.inr (8, [.ref (g + 1), .ref (g + 3), .ref (g + 4), .ref (g + 57), .ref (g + 59), .ref (g + 63), .ref (g + 81), .ref cu, .ref be, .int (nI so), .int (nI ta), .int (nI tm), .int (nI lt), .int (nI nt), .int (nI p1)])) ∧ M1 (g + 3) = some (.inr (7, [.int (nI p1)])) ∧ M1 (ra nr) = some (.inr (5, [.int b0, .int b1, .int b2, .ref (ra nr + 1), .ref (ra nr + 2)])) ∧ M1 (ra nr + 1) = some (.inl (ca 0, 3, .inl (iN lw1))) ∧ M1 (ra nr + 2) = some (.inl (ca 0, 3, .inl (iN hw1))) ∧ M1 (g + 4) = some (.inr (6, [.ref (g + 5), .int (nI nr)])) ∧ M1 (g + 1) = some (.inr (4, [.ref (g + 2), .int (nI ([] : List Nat).length)])) ∧ (∀ fi, fi < nr → M1 (ra fi) = some (.inr (5, [.int (nI (ru fi 0)), .int (nI (ru fi 1)), .int (nI (ru fi 2)), .ref (ra fi + 1), .ref (ra fi + 2)]))) ∧ (∀ fi, fi < 17 → M1 (ra fi + 1) = some (.inl (ca 0, 3, .inl (iN ((va_up lw nr lw1) fi))))) ∧ (∀ fi, fi < 17 → M1 (ra fi + 2) = some (.inl (ca 0, 3, .inl (iN ((va_up hw nr hw1) fi))))) ∧ (∀ z, z ≠ g → z ≠ (g + 3) → z ≠ (ra nr) → z ≠ (ra nr + 1) → z ≠ (ra nr + 2) → z ≠ (g + 4) → z ≠ (g + 1) → M1 z = M z) ∧ (-2) = r))) := by
  refine gm_body (by decide) (Nat.le_of_ble_eq_true rfl) (fun p e s m below meth c ls hx hb hr hts hown hlk hml hnm hP hK hN hX hS hl => ?_)
  have htl : ∀ w ∈ LW, w.before _ s = true := fun w h => hts w (List.mem_cons_of_mem _ h)
  have hown : s.vm.findClass "PacketGate" = some m.cls := hown
  have hl : lv_has ls 2 [(0, .ref g)] := hl
  have hRn := hR.1 nr (by omega)
  refine lv_aload_n hx hb d_Pg_install_0 rfl (lv_at hl 0 rfl) ?_
  refine gm_get (C := R_Pg) (T := F_Pg) (n := 15) hx hb htl i_Pg hown hK hP eg rfl 2 (by decide) (htl _ k_199) (fun _ h => h) rfl d_Pg_install_1 ?_
  refine gc_V (q := (R_Rb, F_Rb, 2)) (n := 0) [] [] hx hb hml hown hts hK hN hX hP hS (c_Rb_isFull eb (by omega)) rfl eb k_354 k_355 k_356 k_4 k_357 (by decide +kernel) ⟨by decide, by decide⟩ rfl hl.1 rfl (Nat.le_of_ble_eq_true rfl) d_Pg_install_4 ⟨by decide, by decide⟩ (fun r N1 M_1 H locs hw hP hS => ?_)
  obtain ⟨rfl, hw⟩ := hw
  rcases hw with ⟨c_2, rfl, rfl⟩ | ⟨c_3, rfl, rfl⟩
  · skip
    refine W.eq (g2 := F0 m 7 ls [.int (nI 1)]) rfl ?_
    refine lv_if_eq (tgt := 15) hx hb d_Pg_install_7 (by decide) (fun q => absurd q (by decide)) (fun _ => ?_)
    refine lv_bipush (v := (-3)) hx hb d_Pg_install_10 (by decide) ?_
    refine lv_goto (tgt := 19) hx hb d_Pg_install_12 (by decide) ?_
    refine lv_istore_n (lv' := [(1, .int (-3)), (0, .ref g)]) hx hb d_Pg_install_19 rfl hl (by decide) rfl (fun ls hl => ?_)
    refine lv_aload_n hx hb d_Pg_install_20 rfl (lv_at hl 1 rfl) ?_
    refine gm_get (C := R_Pg) (T := F_Pg) (n := 15) hx hb htl i_Pg hown hK hP eg rfl 0 (by decide) (htl _ k_197) (fun _ h => h) rfl d_Pg_install_21 ?_
    refine gc_V (q := (R_Li, F_Li, 2)) (n := 0) [] [] hx hb hml hown hts hK hN hX hP hS (c_Li_clear el) rfl el k_413 k_414 k_415 k_2 k_416 (by decide +kernel) ⟨by decide, by decide⟩ rfl hl.1 rfl (Nat.le_of_ble_eq_true rfl) d_Pg_install_24 ⟨by decide, by decide⟩ (fun r N1 M_4 H locs hw hP hS => ?_)
    obtain ⟨rfl, hw⟩ := hw
    obtain rfl := hw
    have hP : gm_P D cls A N (gm_up M (g + 1) (.inr (4, [.ref (g + 2), .int (nI ([] : List Nat).length)]))) H := hP
    have h_5 := gm_pass (k := (g + 1)) (y := .inr (4, [.ref (g + 2), .int (nI ([] : List Nat).length)])) eg (gm_ne eg el (fun h => by cases h))
    have h_6 := gm_pass (k := (g + 1)) (y := .inr (4, [.ref (g + 2), .int (nI ([] : List Nat).length)])) ec (gm_ne ec el (fun h => by cases h))
    have h_7 := gm_pass (k := (g + 1)) (y := .inr (4, [.ref (g + 2), .int (nI ([] : List Nat).length)])) er (gm_ne er el (fun h => by cases h))
    have h_8 := gm_pass (k := (g + 1)) (y := .inr (4, [.ref (g + 2), .int (nI ([] : List Nat).length)])) eb (gm_ne eb el (fun h => by cases h))
    have h_9 := gm_pass (k := (g + 1)) (y := .inr (4, [.ref (g + 2), .int (nI ([] : List Nat).length)])) ea (gm_ne ea el (fun h => by cases h))
    have h_10 := gm_pass (k := (g + 1)) (y := .inr (4, [.ref (g + 2), .int (nI ([] : List Nat).length)])) esp (gm_ne esp el (fun h => by cases h))
    have h_11 := gm_up_self M (g + 1) (.inr (4, [.ref (g + 2), .int (nI ([] : List Nat).length)]))
    have hf_12 : ∀ fi, fi < nr → (gm_up M (g + 1) (.inr (4, [.ref (g + 2), .int (nI ([] : List Nat).length)]))) (ra fi) = some (.inr (5, [.int (nI (ru fi 0)), .int (nI (ru fi 1)), .int (nI (ru fi 2)), .ref (ra fi + 1), .ref (ra fi + 2)])) := fun fi hfi => gm_pass (k := (g + 1)) (y := .inr (4, [.ref (g + 2), .int (nI ([] : List Nat).length)])) (hr1 fi hfi) (gm_ne (hr1 fi hfi) el (fun h => by cases h))
    have hf_13 : ∀ fi, fi < 17 → (gm_up M (g + 1) (.inr (4, [.ref (g + 2), .int (nI ([] : List Nat).length)]))) (ra fi + 1) = some (.inl (ca 0, 3, .inl (iN (lw fi)))) := fun fi hfi => gm_pass (k := (g + 1)) (y := .inr (4, [.ref (g + 2), .int (nI ([] : List Nat).length)])) (hr2 fi hfi) (gm_ne (hr2 fi hfi) el (fun h => by cases h))
    have hf_14 : ∀ fi, fi < 17 → (gm_up M (g + 1) (.inr (4, [.ref (g + 2), .int (nI ([] : List Nat).length)]))) (ra fi + 2) = some (.inl (ca 0, 3, .inl (iN (hw fi)))) := fun fi hfi => gm_pass (k := (g + 1)) (y := .inr (4, [.ref (g + 2), .int (nI ([] : List Nat).length)])) (hr3 fi hfi) (gm_ne (hr3 fi hfi) el (fun h => by cases h))
    refine W.eq (g2 := F0 m 27 ls []) rfl ?_
    refine lv_iload_n hx hb d_Pg_install_27 rfl (lv_at hl 0 rfl) ?_
    exact gc_iret hx hb hr hlk hP hS d_Pg_install_28 ⟨rfl, Or.inl ⟨by assumption, rfl, rfl⟩⟩
  · skip
    refine W.eq (g2 := F0 m 7 ls [.int (nI 0)]) rfl ?_
    refine lv_if_eq (tgt := 15) hx hb d_Pg_install_7 (by decide) (fun _ => ?_) (fun q => absurd q (by decide))
    refine lv_aload_n hx hb d_Pg_install_15 rfl (lv_at hl 0 rfl) ?_
    refine gc_V (q := (R_Pg, F_Pg, 15)) (n := 0) [] [] hx hb hml hown hts hK hN hX hP hS (c_Pg_installLine eg el ec er eb ea esp (by omega) htx hcs hr1 hr2 hr3 (by omega) hR hU (by omega)) rfl eg k_358 k_360 ks_Pg_installLine k_1 k_361 (by decide +kernel) ⟨by decide, by decide⟩ rfl hl.1 rfl (Nat.le_of_ble_eq_true rfl) d_Pg_install_16 ⟨by decide, by decide⟩ (fun r N1 M_15 H locs hw hP hS => ?_)
    obtain ⟨rfl, hw⟩ := hw
    rcases hw with ⟨k0v_16, k1v_17, k2v_18, m1v_19, m2v_20, m3vv_21, n1v_22, n2v_23, n3v_24, p1v_25, c_26, c_27, h_28, h_29, h_30, h_31, h_32, h_33, hfm_34, hfm_35, hfm_36, hfr_37, rfl⟩ | ⟨b0v_38, b1v_39, b2v_40, lw1v_41, hw1v_42, p1v_43, c_44, c_45, c_46, c_47, h_48, h_49, h_50, h_51, h_52, h_53, hfm_54, hfm_55, hfm_56, hfr_57, rfl⟩
    · skip
      have h_58 := (hfr_37 _ (gm_ne el eg (fun h => by cases h)) (gm_ne el er (fun h => by cases h)) (gm_ne el esp (fun h => by cases h)) (gm_ne el (hr2 nr (by omega)) (fun h => by cases h)) (gm_ne el (hr3 nr (by omega)) (fun h => by cases h)) (gm_ne el eb (fun h => by cases h))).trans el
      have h_59 := (hfr_37 _ (gm_ne ec eg (fun h => by cases h)) (gm_ne ec er (fun h => by cases h)) (gm_ne ec esp (fun h => by cases h)) (gm_ne ec (hr2 nr (by omega)) (fun h => by simp at h)) (gm_ne ec (hr3 nr (by omega)) (fun h => by simp at h)) (gm_ne ec eb (fun h => by cases h))).trans ec
      have h_60 := (hfr_37 _ (gm_ne ea eg (fun h => by cases h)) (gm_ne ea er (fun h => by cases h)) (gm_ne ea esp (fun h => by cases h)) (gm_ne ea (hr2 nr (by omega)) (fun h => by simp at h)) (gm_ne ea (hr3 nr (by omega)) (fun h => by simp at h)) (gm_ne ea eb (fun h => by cases h))).trans ea
      refine W.eq (g2 := F0 m 19 ls [.int (nI (nr + 1))]) rfl ?_
      refine lv_istore_n (lv' := [(1, .int (nI (nr + 1))), (0, .ref g)]) hx hb d_Pg_install_19 rfl hl (by decide) rfl (fun ls hl => ?_)
      refine lv_aload_n hx hb d_Pg_install_20 rfl (lv_at hl 1 rfl) ?_
      refine gm_get (C := R_Pg) (T := F_Pg) (n := 15) hx hb htl i_Pg hown hK hP h_28 rfl 0 (by decide) (htl _ k_197) (fun _ h => h) rfl d_Pg_install_21 ?_
      refine gc_V (q := (R_Li, F_Li, 2)) (n := 0) [] [] hx hb hml hown hts hK hN hX hP hS (c_Li_clear h_58) rfl h_58 k_413 k_414 k_415 k_2 k_416 (by decide +kernel) ⟨by decide, by decide⟩ rfl hl.1 rfl (Nat.le_of_ble_eq_true rfl) d_Pg_install_24 ⟨by decide, by decide⟩ (fun r N1 M_61 H locs hw hP hS => ?_)
      obtain ⟨rfl, hw⟩ := hw
      obtain rfl := hw
      have hP : gm_P D cls A N (gm_up M_15 (g + 1) (.inr (4, [.ref (g + 2), .int (nI ([] : List Nat).length)]))) H := hP
      have h_62 := gm_pass (k := (g + 1)) (y := .inr (4, [.ref (g + 2), .int (nI ([] : List Nat).length)])) h_59 (gm_ne h_59 h_58 (fun h => by cases h))
      have h_63 := gm_pass (k := (g + 1)) (y := .inr (4, [.ref (g + 2), .int (nI ([] : List Nat).length)])) h_60 (gm_ne h_60 h_58 (fun h => by cases h))
      have h_64 := gm_pass (k := (g + 1)) (y := .inr (4, [.ref (g + 2), .int (nI ([] : List Nat).length)])) h_28 (gm_ne h_28 h_58 (fun h => by cases h))
      have h_65 := gm_pass (k := (g + 1)) (y := .inr (4, [.ref (g + 2), .int (nI ([] : List Nat).length)])) h_29 (gm_ne h_29 h_58 (fun h => by cases h))
      have h_66 := gm_pass (k := (g + 1)) (y := .inr (4, [.ref (g + 2), .int (nI ([] : List Nat).length)])) h_30 (gm_ne h_30 h_58 (fun h => by cases h))
      have h_67 := gm_pass (k := (g + 1)) (y := .inr (4, [.ref (g + 2), .int (nI ([] : List Nat).length)])) h_31 (gm_ne h_31 h_58 (fun h => by cases h))
      have h_68 := gm_pass (k := (g + 1)) (y := .inr (4, [.ref (g + 2), .int (nI ([] : List Nat).length)])) h_32 (gm_ne h_32 h_58 (fun h => by cases h))
      have h_69 := gm_pass (k := (g + 1)) (y := .inr (4, [.ref (g + 2), .int (nI ([] : List Nat).length)])) h_33 (gm_ne h_33 h_58 (fun h => by cases h))
      have h_70 := gm_up_self M_15 (g + 1) (.inr (4, [.ref (g + 2), .int (nI ([] : List Nat).length)]))
      have hf_71 : ∀ fi, fi < (nr + 1) → (gm_up M_15 (g + 1) (.inr (4, [.ref (g + 2), .int (nI ([] : List Nat).length)]))) (ra fi) = some (.inr (5, [.int (nI ((va_up ru nr (m3 k0v_16 k1v_17 k2v_18)) fi 0)), .int (nI ((va_up ru nr (m3 k0v_16 k1v_17 k2v_18)) fi 1)), .int (nI ((va_up ru nr (m3 k0v_16 k1v_17 k2v_18)) fi 2)), .ref (ra fi + 1), .ref (ra fi + 2)])) := fun fi hfi => gm_pass (k := (g + 1)) (y := .inr (4, [.ref (g + 2), .int (nI ([] : List Nat).length)])) (hfm_34 fi hfi) (gm_ne (hfm_34 fi hfi) h_58 (fun h => by cases h))
      have hf_72 : ∀ fi, fi < 17 → (gm_up M_15 (g + 1) (.inr (4, [.ref (g + 2), .int (nI ([] : List Nat).length)]))) (ra fi + 1) = some (.inl (ca 0, 3, .inl (iN ((va_up lw nr (va_up (va_up (va_up (lw nr) 0 m1v_19) 1 m2v_20) 2 m3vv_21)) fi)))) := fun fi hfi => gm_pass (k := (g + 1)) (y := .inr (4, [.ref (g + 2), .int (nI ([] : List Nat).length)])) (hfm_35 fi hfi) (gm_ne (hfm_35 fi hfi) h_58 (fun h => by cases h))
      have hf_73 : ∀ fi, fi < 17 → (gm_up M_15 (g + 1) (.inr (4, [.ref (g + 2), .int (nI ([] : List Nat).length)]))) (ra fi + 2) = some (.inl (ca 0, 3, .inl (iN ((va_up hw nr (va_up (va_up (va_up (hw nr) 0 n1v_22) 1 n2v_23) 2 n3v_24)) fi)))) := fun fi hfi => gm_pass (k := (g + 1)) (y := .inr (4, [.ref (g + 2), .int (nI ([] : List Nat).length)])) (hfm_36 fi hfi) (gm_ne (hfm_36 fi hfi) h_58 (fun h => by cases h))
      refine W.eq (g2 := F0 m 27 ls []) rfl ?_
      refine lv_iload_n hx hb d_Pg_install_27 rfl (lv_at hl 0 rfl) ?_
      exact gc_iret hx hb hr hlk hP hS d_Pg_install_28 ⟨rfl, Or.inr (Or.inl ⟨k0v_16, k1v_17, k2v_18, m1v_19, m2v_20, m3vv_21, n1v_22, n2v_23, n3v_24, p1v_25, c_3, c_26, c_27, h_64, h_65, h_66, h_67, h_68, h_69, h_70, hf_71, hf_72, hf_73, (fun z q0 q1 q2 q3 q4 q5 q6 => (gm_up_ne _ _ q6).trans ((hfr_37 z q0 q1 q2 q3 q4 q5).trans (rfl))), rfl⟩)⟩
    · skip
      have h_74 := (hfr_57 _ (gm_ne el eg (fun h => by cases h)) (gm_ne el er (fun h => by cases h)) (gm_ne el esp (fun h => by cases h)) (gm_ne el (hr2 nr (by omega)) (fun h => by cases h)) (gm_ne el (hr3 nr (by omega)) (fun h => by cases h)) (gm_ne el eb (fun h => by cases h))).trans el
      have h_75 := (hfr_57 _ (gm_ne ec eg (fun h => by cases h)) (gm_ne ec er (fun h => by cases h)) (gm_ne ec esp (fun h => by cases h)) (gm_ne ec (hr2 nr (by omega)) (fun h => by simp at h)) (gm_ne ec (hr3 nr (by omega)) (fun h => by simp at h)) (gm_ne ec eb (fun h => by cases h))).trans ec
      have h_76 := (hfr_57 _ (gm_ne ea eg (fun h => by cases h)) (gm_ne ea er (fun h => by cases h)) (gm_ne ea esp (fun h => by cases h)) (gm_ne ea (hr2 nr (by omega)) (fun h => by simp at h)) (gm_ne ea (hr3 nr (by omega)) (fun h => by simp at h)) (gm_ne ea eb (fun h => by cases h))).trans ea
      refine W.eq (g2 := F0 m 19 ls [.int (-2)]) rfl ?_
      refine lv_istore_n (lv' := [(1, .int (-2)), (0, .ref g)]) hx hb d_Pg_install_19 rfl hl (by decide) rfl (fun ls hl => ?_)
      refine lv_aload_n hx hb d_Pg_install_20 rfl (lv_at hl 1 rfl) ?_
      refine gm_get (C := R_Pg) (T := F_Pg) (n := 15) hx hb htl i_Pg hown hK hP h_48 rfl 0 (by decide) (htl _ k_197) (fun _ h => h) rfl d_Pg_install_21 ?_
      refine gc_V (q := (R_Li, F_Li, 2)) (n := 0) [] [] hx hb hml hown hts hK hN hX hP hS (c_Li_clear h_74) rfl h_74 k_413 k_414 k_415 k_2 k_416 (by decide +kernel) ⟨by decide, by decide⟩ rfl hl.1 rfl (Nat.le_of_ble_eq_true rfl) d_Pg_install_24 ⟨by decide, by decide⟩ (fun r N1 M_77 H locs hw hP hS => ?_)
      obtain ⟨rfl, hw⟩ := hw
      obtain rfl := hw
      have hP : gm_P D cls A N (gm_up M_15 (g + 1) (.inr (4, [.ref (g + 2), .int (nI ([] : List Nat).length)]))) H := hP
      have h_78 := gm_pass (k := (g + 1)) (y := .inr (4, [.ref (g + 2), .int (nI ([] : List Nat).length)])) h_75 (gm_ne h_75 h_74 (fun h => by cases h))
      have h_79 := gm_pass (k := (g + 1)) (y := .inr (4, [.ref (g + 2), .int (nI ([] : List Nat).length)])) h_76 (gm_ne h_76 h_74 (fun h => by cases h))
      have h_80 := gm_pass (k := (g + 1)) (y := .inr (4, [.ref (g + 2), .int (nI ([] : List Nat).length)])) h_48 (gm_ne h_48 h_74 (fun h => by cases h))
      have h_81 := gm_pass (k := (g + 1)) (y := .inr (4, [.ref (g + 2), .int (nI ([] : List Nat).length)])) h_49 (gm_ne h_49 h_74 (fun h => by cases h))
      have h_82 := gm_pass (k := (g + 1)) (y := .inr (4, [.ref (g + 2), .int (nI ([] : List Nat).length)])) h_50 (gm_ne h_50 h_74 (fun h => by cases h))
      have h_83 := gm_pass (k := (g + 1)) (y := .inr (4, [.ref (g + 2), .int (nI ([] : List Nat).length)])) h_51 (gm_ne h_51 h_74 (fun h => by cases h))
      have h_84 := gm_pass (k := (g + 1)) (y := .inr (4, [.ref (g + 2), .int (nI ([] : List Nat).length)])) h_52 (gm_ne h_52 h_74 (fun h => by cases h))
      have h_85 := gm_pass (k := (g + 1)) (y := .inr (4, [.ref (g + 2), .int (nI ([] : List Nat).length)])) h_53 (gm_ne h_53 h_74 (fun h => by cases h))
      have h_86 := gm_up_self M_15 (g + 1) (.inr (4, [.ref (g + 2), .int (nI ([] : List Nat).length)]))
      have hf_87 : ∀ fi, fi < nr → (gm_up M_15 (g + 1) (.inr (4, [.ref (g + 2), .int (nI ([] : List Nat).length)]))) (ra fi) = some (.inr (5, [.int (nI (ru fi 0)), .int (nI (ru fi 1)), .int (nI (ru fi 2)), .ref (ra fi + 1), .ref (ra fi + 2)])) := fun fi hfi => gm_pass (k := (g + 1)) (y := .inr (4, [.ref (g + 2), .int (nI ([] : List Nat).length)])) (hfm_54 fi hfi) (gm_ne (hfm_54 fi hfi) h_74 (fun h => by cases h))
      have hf_88 : ∀ fi, fi < 17 → (gm_up M_15 (g + 1) (.inr (4, [.ref (g + 2), .int (nI ([] : List Nat).length)]))) (ra fi + 1) = some (.inl (ca 0, 3, .inl (iN ((va_up lw nr lw1v_41) fi)))) := fun fi hfi => gm_pass (k := (g + 1)) (y := .inr (4, [.ref (g + 2), .int (nI ([] : List Nat).length)])) (hfm_55 fi hfi) (gm_ne (hfm_55 fi hfi) h_74 (fun h => by cases h))
      have hf_89 : ∀ fi, fi < 17 → (gm_up M_15 (g + 1) (.inr (4, [.ref (g + 2), .int (nI ([] : List Nat).length)]))) (ra fi + 2) = some (.inl (ca 0, 3, .inl (iN ((va_up hw nr hw1v_42) fi)))) := fun fi hfi => gm_pass (k := (g + 1)) (y := .inr (4, [.ref (g + 2), .int (nI ([] : List Nat).length)])) (hfm_56 fi hfi) (gm_ne (hfm_56 fi hfi) h_74 (fun h => by cases h))
      refine W.eq (g2 := F0 m 27 ls []) rfl ?_
      refine lv_iload_n hx hb d_Pg_install_27 rfl (lv_at hl 0 rfl) ?_
      exact gc_iret hx hb hr hlk hP hS d_Pg_install_28 ⟨rfl, Or.inr (Or.inr ⟨b0v_38, b1v_39, b2v_40, lw1v_41, hw1v_42, p1v_43, c_3, c_44, c_45, c_46, c_47, h_80, h_81, h_82, h_83, h_84, h_85, h_86, hf_87, hf_88, hf_89, (fun z q0 q1 q2 q3 q4 q5 q6 => (gm_up_ne _ _ q6).trans ((hfr_57 z q0 q1 q2 q3 q4 q5).trans (rfl))), rfl⟩)⟩
end C24
