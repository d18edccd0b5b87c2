section C9
variable {l : Launch} {D : va_G} {ca : Nat → ClassId} {A : Nat → Prop} {G : gG} {N : Nat} {M : gm_M}

def tcL : List (List Nat) := [[80, 68, 83, 105, 111, 98, 116, 117, 101, 42, 45, 44, 48, 49, 50, 51, 52, 53, 54, 55, 56, 57], [80, 68, 83], [105, 111, 98], [116, 117, 101, 42]]
/-- the character at a place of a text -/
def tc (j k : Nat) : Nat := (tcL.getD j []).getD k 0
theorem tc_ok : ∀ j, j < 4 → ∀ k, k < tx_l.getD j 0 → (tx_b.getD j []).getD k 0 = nI (tc j k) ∧ tc j k < 128 := by decide
theorem tx_lt (j : Nat) : tx_l.getD j 0 < 2 ^ 31 := by
  rcases Nat.lt_or_ge j 4 with h | h
  · exact (by decide : ∀ j, j < 4 → tx_l.getD j 0 < 2 ^ 31) j h
  · have e : tx_l.getD j 0 = 0 := by simp [tx_l, List.getD, List.getElem?_eq_none (show [22, 3, 3, 4].length ≤ j from h)]
    rw [e]; decide
theorem nI_i2c {k : Nat} (h : k < 65536) : ((nI k).toUInt32 % 65536).toInt32 = nI k := by rw [pk_char, pk_tn (by omega), Nat.mod_eq_of_lt h]
theorem nI_and255 {k : Nat} (h : k < 256) : nI k &&& nI 255 = nI k := by rw [pk_andN (by omega) 8 (by decide), Nat.mod_eq_of_lt h]
theorem nI_i2b : ∀ d, d < 128 → (nI d).toInt8.toInt32 = nI d := by decide
theorem tc_cmp {d c : Nat} (hd : d < 128) (hc : c < 256) : nI d = (nI c).toInt8.toInt32 ↔ d = c := by
  rw [sc_eq (nI_i2b d hd) hc, show (255 : Int32) = nI 255 from rfl, nI_and255 (by omega)]
  exact nI_eq (by omega) (by omega)
set_option maxHeartbeats 4000000 in
set_option maxRecDepth 100000 in
theorem c_St_isLatin1 (j : Nat) (hj : j < 4) : gC l D ca A G y_St_isLatin1 (.code y_St_isLatin1 b_St_isLatin1 1 (some .boolean)) ({ frames := 0, cells := 0, slots := 0, locals := 0 }) N M [.ref (G.1 j)] gm_i (fun (r : Int32) (N1 : Nat) (M1 : gm_M) => N = N1 ∧ M = M1 ∧ nI 1 = r) := by
  refine gm_body (by decide) (Nat.le_of_ble_eq_true rfl) (fun p e s m below meth c ls hx hb hr hts hown hlk hml hnm hP hK hN hX hS hl => ?_)
  have htl : ∀ w ∈ LW, w.before _ s = true := fun w h => hts w (List.mem_cons_of_mem _ h)
  have hown : s.vm.findClass "java/lang/String" = some m.cls := hown
  have hl : lv_has ls 1 [(0, .ref (G.1 j))] := hl
  refine va_gets hx hb hX.2.2.2.2.2.2.1 hS hown (htl _ k_266) (fun _ h => h) d_St_isLatin1_0 ?_
  refine lv_if_eq (tgt := 17) hx hb d_St_isLatin1_3 (by decide) (fun q => absurd q (by decide)) (fun _ => ?_)
  refine lv_aload_n hx hb d_St_isLatin1_6 rfl (lv_at hl 0 rfl) ?_
  refine vk_getf hx hb (hX.2.2.2.1.1 j (by omega)).2.1 hS hown (htl _ k_1037) (fun _ h => h) d_St_isLatin1_7 ?_
  refine lv_if_ne (tgt := 17) hx hb d_St_isLatin1_10 (by decide) (fun q => absurd q (by decide)) (fun _ => ?_)
  refine lv_iconst (v := nI 1) hx hb d_St_isLatin1_13 (by decide) ?_
  refine lv_goto (tgt := 18) hx hb d_St_isLatin1_14 (by decide) ?_
  exact gc_zret hx hb hr hlk hP hS d_St_isLatin1_18 rfl ⟨rfl, rfl, rfl⟩
set_option maxHeartbeats 4000000 in
set_option maxRecDepth 100000 in
theorem c_St_coder (j : Nat) (hj : j < 4) : gC l D ca A G y_St_coder (.code y_St_coder b_St_coder 1 (some .byte)) ({ frames := 0, cells := 0, slots := 0, locals := 0 }) N M [.ref (G.1 j)] gm_i (fun (r : Int32) (N1 : Nat) (M1 : gm_M) => N = N1 ∧ M = M1 ∧ 0 = r) := by
  refine gm_body (by decide) (Nat.le_of_ble_eq_true rfl) (fun p e s m below meth c ls hx hb hr hts hown hlk hml hnm hP hK hN hX hS hl => ?_)
  have htl : ∀ w ∈ LW, w.before _ s = true := fun w h => hts w (List.mem_cons_of_mem _ h)
  have hown : s.vm.findClass "java/lang/String" = some m.cls := hown
  have hl : lv_has ls 1 [(0, .ref (G.1 j))] := hl
  refine va_gets hx hb hX.2.2.2.2.2.2.1 hS hown (htl _ k_266) (fun _ h => h) d_St_coder_0 ?_
  refine lv_if_eq (tgt := 13) hx hb d_St_coder_3 (by decide) (fun q => absurd q (by decide)) (fun _ => ?_)
  refine lv_aload_n hx hb d_St_coder_6 rfl (lv_at hl 0 rfl) ?_
  refine vk_getf hx hb (hX.2.2.2.1.1 j (by omega)).2.1 hS hown (htl _ k_1037) (fun _ h => h) d_St_coder_7 ?_
  refine lv_goto (tgt := 14) hx hb d_St_coder_10 (by decide) ?_
  exact gc_zret hx hb hr hlk hP hS d_St_coder_14 rfl ⟨rfl, rfl, rfl⟩
set_option maxHeartbeats 4000000 in
set_option maxRecDepth 100000 in
theorem c_St_length (j : Nat) (hj : j < 4) : gC l D ca A G y_St_length (.code y_St_length b_St_length 1 (some .int)) ({ frames := 1, cells := 0, slots := 0, locals := 20 }) N M [.ref (G.1 j)] gm_i (fun (r : Int32) (N1 : Nat) (M1 : gm_M) => N = N1 ∧ M = M1 ∧ nI (tx_l.getD j 0) = r) := by
  refine gm_body (by decide) (Nat.le_of_ble_eq_true rfl) (fun p e s m below meth c ls hx hb hr hts hown hlk hml hnm hP hK hN hX hS hl => ?_)
  have htl : ∀ w ∈ LW, w.before _ s = true := fun w h => hts w (List.mem_cons_of_mem _ h)
  have hown : s.vm.findClass "java/lang/String" = some m.cls := hown
  have hl : lv_has ls 1 [(0, .ref (G.1 j))] := hl
  refine lv_aload_n hx hb d_St_length_0 rfl (lv_at hl 0 rfl) ?_
  refine vk_getf hx hb (hX.2.2.2.1.1 j (by omega)).2.2.1 hS hown (htl _ k_1038) (fun _ h => h) d_St_length_1 ?_
  refine va_tlen (v := nI (tx_l.getD j 0)) hx hb (hX.2.2.2.1.1 j (by omega)).2.2.2 hS rfl d_St_length_4 ?_
  refine lv_aload_n hx hb d_St_length_5 rfl (lv_at hl 0 rfl) ?_
  refine gc_T (n := 0) [] [.int (nI (tx_l.getD j 0))] hx hb hml hown hts hK hN hX hP hS (c_St_coder j (by omega)) (vk_recv hX.2.2.2.1 (by omega) hS) k_272 k_273 k_274 k_11 k_275 (by decide +kernel) ⟨by decide, by decide⟩ rfl hl.1 rfl (Nat.le_of_ble_eq_true rfl) d_St_length_6 ⟨by decide, by decide⟩ (fun r N1 M_1 H locs hw hP hS => ?_)
  obtain ⟨rfl, hw⟩ := hw
  obtain ⟨rfl, rfl⟩ := hw
  refine W.eq (g2 := F0 m 9 ls [.int 0, .int (nI (tx_l.getD j 0))]) rfl ?_
  refine lv_ishr hx hb d_St_length_9 ?_
  rw [show (nI (tx_l.getD j 0)) >>> (0 &&& 31) = nI (tx_l.getD j 0) from sc_shr0 (tx_lt j)]
  exact gc_iret hx hb hr hlk hP hS d_St_length_10 ⟨rfl, rfl, rfl⟩
set_option maxHeartbeats 4000000 in
set_option maxRecDepth 100000 in
theorem c_S1_canEncode (c0 : Nat) (hc : c0 < 65536) : gC l D ca A G y_S1_canEncode (.code y_S1_canEncode b_S1_canEncode 1 (some .boolean)) ({ frames := 0, cells := 0, slots := 0, locals := 0 }) N M [.int (nI c0)] gm_i (fun (r : Int32) (N1 : Nat) (M1 : gm_M) => N = N1 ∧ (((c0 ≤ 255) ∧ M = M1 ∧ nI 1 = r) ∨ ((255 < c0) ∧ M = M1 ∧ nI 0 = r))) := by
  refine gm_body (by decide) (Nat.le_of_ble_eq_true rfl) (fun p e s m below meth c ls hx hb hr hts hown hlk hml hnm hP hK hN hX hS hl => ?_)
  have htl : ∀ w ∈ LW, w.before _ s = true := fun w h => hts w (List.mem_cons_of_mem _ h)
  have hown : s.vm.findClass "java/lang/StringLatin1" = some m.cls := hown
  have hl : lv_has ls 1 [(0, .int (nI c0))] := hl
  refine lv_iload_n hx hb d_S1_canEncode_0 rfl (lv_at hl 0 rfl) ?_
  refine lz_lt (tgt := 15) hx hb d_S1_canEncode_1 (by decide) (by omega) ?_
  refine lv_iload_n hx hb d_S1_canEncode_4 rfl (lv_at hl 0 rfl) ?_
  refine lv_sipush (v := nI 255) hx hb d_S1_canEncode_5 (by decide) ?_
  refine ln_gt (tgt := 15) hx hb d_S1_canEncode_8 (by decide) (by omega) (by omega) (fun c_2 => ?_) (fun c_2 => ?_)
  · skip
    refine lv_iconst (v := nI 0) hx hb d_S1_canEncode_15 (by decide) ?_
    exact gc_zret hx hb hr hlk hP hS d_S1_canEncode_16 rfl (by first | exact ⟨rfl, Or.inl ⟨(by first | assumption | omega), rfl, rfl⟩⟩ | exact ⟨rfl, Or.inr ⟨(by first | assumption | omega), rfl, rfl⟩⟩)
  · skip
    refine lv_iconst (v := nI 1) hx hb d_S1_canEncode_11 (by decide) ?_
    refine lv_goto (tgt := 16) hx hb d_S1_canEncode_12 (by decide) ?_
    exact gc_zret hx hb hr hlk hP hS d_S1_canEncode_16 rfl (by first | exact ⟨rfl, Or.inl ⟨(by first | assumption | omega), rfl, rfl⟩⟩ | exact ⟨rfl, Or.inr ⟨(by first | assumption | omega), rfl, rfl⟩⟩)
set_option maxHeartbeats 4000000 in
set_option maxRecDepth 100000 in
theorem c_S1_indexOfChar (j c0 : Nat) (hj : j < 4) (hc : c0 < 256) : gC l D ca A G y_S1_indexOfChar (.code y_S1_indexOfChar b_S1_indexOfChar 6 (some .int)) ({ frames := 0, cells := 0, slots := 0, locals := 0 }) N M [.ref (G.2.1 j), .int (nI c0), .int (nI 0), .int (nI (tx_l.getD j 0))] gm_i (fun (r : Int32) (N1 : Nat) (M1 : gm_M) => N = N1 ∧ ((∃ (k : Nat), (k < tx_l.getD j 0) ∧ (tc j k = c0) ∧ (∀ i, i < k → tc j i ≠ c0) ∧ M = M1 ∧ nI k = r) ∨ ((∀ i, i < tx_l.getD j 0 → tc j i ≠ c0) ∧ M = M1 ∧ (-1) = r))) := by
  refine gm_body (by decide) (Nat.le_of_ble_eq_true rfl) (fun p e s m below meth c ls hx hb hr hts hown hlk hml hnm hP hK hN hX hS hl => ?_)
  have htl : ∀ w ∈ LW, w.before _ s = true := fun w h => hts w (List.mem_cons_of_mem _ h)
  have hown : s.vm.findClass "java/lang/StringLatin1" = some m.cls := hown
  have hl : lv_has ls 6 [(0, .ref (G.2.1 j)), (1, .int (nI c0)), (2, .int (nI 0)), (3, .int (nI (tx_l.getD j 0)))] := hl
  generalize hQ : MQ below _ _ s _ _ A = Q
  have hL := tx_lt j
  refine lv_iload_n hx hb d_S1_indexOfChar_0 rfl (lv_at hl 1 rfl) ?_
  refine lv_i2b (v := (nI c0).toInt8.toInt32) hx hb d_S1_indexOfChar_1 rfl ?_
  refine lv_istore (lv' := [(4, .int ((nI c0).toInt8.toInt32)), (0, .ref (G.2.1 j)), (1, .int (nI c0)), (2, .int (nI 0)), (3, .int (nI (tx_l.getD j 0)))]) hx hb d_S1_indexOfChar_2 hl (by decide) rfl (fun ls hl => ?_)
  refine lv_iload_n hx hb d_S1_indexOfChar_4 rfl (lv_at hl 3 rfl) ?_
  refine lv_istore (lv' := [(5, .int (nI 0)), (4, .int ((nI c0).toInt8.toInt32)), (0, .ref (G.2.1 j)), (1, .int (nI c0)), (2, .int (nI 0)), (3, .int (nI (tx_l.getD j 0)))]) hx hb d_S1_indexOfChar_5 hl (by decide) rfl (fun ls hl => ?_)
  have loop_7 : ∀ (fu : Nat) (i : Nat) (ls : Array Slot) (H : Heap) (locs : List Loc), (i ≤ tx_l.getD j 0) → (∀ q, q < i → tc j q ≠ c0) → (tx_l.getD j 0 - i) < fu → gm_P D cls A N M H → va_S A s.heap H locs → lv_has ls 6 [(0, .ref (G.2.1 j)), (3, .int (nI (tx_l.getD j 0))), (4, .int ((nI c0).toInt8.toInt32)), (5, .int (nI i))] → W p l e ({ frames := 0, cells := 0, slots := 0, locals := 0 }) s m ([.ref (G.2.1 j), .int (nI c0), .int (nI 0), .int (nI (tx_l.getD j 0))] : List Value).toArray below meth c H locs (0) (0) Q (F0 m 7 ls []) := by
    intro fu
    induction fu with
    | zero => intro i ls H locs hi hno hk; exact absurd hk (Nat.not_lt_zero _)
    | succ fu ih_7 =>
      intro i ls H locs hi hno hk hP hS hl
      refine lv_iload hx hb d_S1_indexOfChar_7 (lv_at hl 3 rfl) ?_
      refine lv_iload_n hx hb d_S1_indexOfChar_9 rfl (lv_at hl 1 rfl) ?_
      refine ln_ge (tgt := 31) hx hb d_S1_indexOfChar_10 (by decide) (by omega) (by omega) (fun c_1 => ?_) (fun c_1 => ?_)
      · skip
        refine lv_iconst (v := (-1)) hx hb d_S1_indexOfChar_31 (by decide) ?_
        rw [← hQ]
        exact gc_iret hx hb hr hlk hP hS d_S1_indexOfChar_32 ⟨rfl, Or.inr ⟨fun q hq => hno q (by omega), rfl, rfl⟩⟩
      · skip
        refine lv_aload_n hx hb d_S1_indexOfChar_13 rfl (lv_at hl 0 rfl) ?_
        refine lv_iload hx hb d_S1_indexOfChar_14 (lv_at hl 3 rfl) ?_
        refine va_tb (v := .int (nI (tc j i))) hx hb (hX.2.2.2.1.1 j (by omega)).2.2.2 hS (vp_in_nI (by omega) (tx_lt j)) (by rw [nI_clamp (Nat.lt_trans (by omega) (tx_lt j)), (tc_ok j (by omega) i (by omega)).1]) d_S1_indexOfChar_16 ?_
        refine lv_iload hx hb d_S1_indexOfChar_17 (lv_at hl 2 rfl) ?_
        refine lv_icmp_ne (tgt := 25) hx hb d_S1_indexOfChar_19 (by decide) (fun c_2 => ?_) (fun c_2 => ?_)
        · skip
          rw [tc_cmp (tc_ok j hj i (by omega)).2 hc] at c_2
          refine lv_iinc (v := nI (i + 1)) (lv' := [(5, .int (nI (i + 1))), (0, .ref (G.2.1 j)), (3, .int (nI (tx_l.getD j 0))), (4, .int ((nI c0).toInt8.toInt32))]) hx hb d_S1_indexOfChar_25 hl (k := 3) rfl (nI_1 i) (by decide) rfl (fun ls hl => ?_)
          refine lv_goto (tgt := 7) hx hb d_S1_indexOfChar_28 (by decide) ?_
          exact ih_7 (i + 1) ls _ _ (by omega) (fun q hq => by rcases Nat.lt_succ_iff_lt_or_eq.mp hq with z | z; exact hno q z; rw [z]; assumption) (by omega) hP hS (lv_sub hl [1, 2, 3, 0] rfl)
        · skip
          rw [tc_cmp (tc_ok j hj i (by omega)).2 hc] at c_2
          refine lv_iload hx hb d_S1_indexOfChar_22 (lv_at hl 3 rfl) ?_
          rw [← hQ]
          exact gc_iret hx hb hr hlk hP hS d_S1_indexOfChar_24 ⟨rfl, Or.inl ⟨i, by omega, by assumption, hno, rfl, rfl⟩⟩
  exact loop_7 (_ + 1) 0 ls _ _ (Nat.zero_le _) (fun q hq => absurd hq (Nat.not_lt_zero _)) (Nat.lt_succ_self _) hP hS (lv_sub hl [2, 5, 1, 0] rfl)
set_option maxHeartbeats 4000000 in
set_option maxRecDepth 100000 in
theorem c_S1_indexOf (j c0 : Nat) (hj : j < 4) (hc : c0 < 65536) : gC l D ca A G y_S1_indexOf (.code y_S1_indexOf b_S1_indexOf 4 (some .int)) ({ frames := 1, cells := 0, slots := 0, locals := 25 }) N M [.ref (G.2.1 j), .int (nI c0), .int (nI 0), .int (nI (tx_l.getD j 0))] gm_i (fun (r : Int32) (N1 : Nat) (M1 : gm_M) => N = N1 ∧ ((∃ (k : Nat), (k < tx_l.getD j 0) ∧ (tc j k = c0) ∧ (∀ i, i < k → tc j i ≠ c0) ∧ M = M1 ∧ nI k = r) ∨ ((∀ i, i < tx_l.getD j 0 → tc j i ≠ c0) ∧ M = M1 ∧ (-1) = r))) := by
  refine gm_body (by decide) (Nat.le_of_ble_eq_true rfl) (fun p e s m below meth c ls hx hb hr hts hown hlk hml hnm hP hK hN hX hS hl => ?_)
  have htl : ∀ w ∈ LW, w.before _ s = true := fun w h => hts w (List.mem_cons_of_mem _ h)
  have hown : s.vm.findClass "java/lang/StringLatin1" = some m.cls := hown
  have hl : lv_has ls 4 [(0, .ref (G.2.1 j)), (1, .int (nI c0)), (2, .int (nI 0)), (3, .int (nI (tx_l.getD j 0)))] := hl
  have hL := tx_lt j
  refine lv_iload_n hx hb d_S1_indexOf_0 rfl (lv_at hl 1 rfl) ?_
  refine gc_S (n := 1) [.int (nI c0)] [] hx hb hml hown hts hK hN hX hP hS (c_S1_canEncode c0 (by omega)) k_279 k_280 k_12 k_281 (by decide +kernel) ⟨by decide, by decide⟩ rfl hl.1 rfl (Nat.le_of_ble_eq_true rfl) d_S1_indexOf_1 ⟨by decide, by decide⟩ (fun r N1 M_1 H locs hw hP hS => ?_)
  obtain ⟨rfl, hw⟩ := hw
  rcases hw with ⟨c_2, rfl, rfl⟩ | ⟨c_3, rfl, rfl⟩
  · skip
    refine W.eq (g2 := F0 m 4 ls [.int (nI 1)]) rfl ?_
    refine lv_if_ne (tgt := 9) hx hb d_S1_indexOf_4 (by decide) (fun _ => ?_) (fun q => absurd q (by decide))
    refine lv_iload_n hx hb d_S1_indexOf_9 rfl (lv_at hl 2 rfl) ?_
    refine lv_iconst (v := nI 0) hx hb d_S1_indexOf_10 (by decide) ?_
    refine gn_max hx hb (by rw [hml]; exact hl.1.symm) hown htl k_282 k_283 k_13 k_284 (by decide) (Nat.le_of_ble_eq_true rfl) (by decide) (by decide) (by omega) (by omega) d_S1_indexOf_11 (fun c_4 => ?_) (fun c_4 => ?_)
    · skip
      refine lv_istore_n (lv' := [(2, .int (nI 0)), (0, .ref (G.2.1 j)), (1, .int (nI c0)), (3, .int (nI (tx_l.getD j 0)))]) hx hb d_S1_indexOf_14 rfl hl (by decide) rfl (fun ls hl => ?_)
      refine lv_iload_n hx hb d_S1_indexOf_15 rfl (lv_at hl 3 rfl) ?_
      refine lv_aload_n hx hb d_S1_indexOf_16 rfl (lv_at hl 1 rfl) ?_
      refine va_tlen (v := nI (tx_l.getD j 0)) hx hb (hX.2.2.2.1.1 j (by omega)).2.2.2 hS rfl d_S1_indexOf_17 ?_
      refine gn_min hx hb (by rw [hml]; exact hl.1.symm) hown htl k_285 k_286 k_13 k_287 (by decide) (Nat.le_of_ble_eq_true rfl) (by decide) (by decide) (by omega) (by omega) d_S1_indexOf_18 (fun c_5 => ?_) (fun c_5 => ?_)
      · skip
        refine lv_istore_n (lv' := [(3, .int (nI (tx_l.getD j 0))), (2, .int (nI 0)), (0, .ref (G.2.1 j)), (1, .int (nI c0))]) hx hb d_S1_indexOf_21 rfl hl (by decide) rfl (fun ls hl => ?_)
        refine lv_iload_n hx hb d_S1_indexOf_22 rfl (lv_at hl 1 rfl) ?_
        refine lv_iload_n hx hb d_S1_indexOf_23 rfl (lv_at hl 0 rfl) ?_
        refine ln_lt (tgt := 29) hx hb d_S1_indexOf_24 (by decide) (by omega) (by omega) (fun c_6 => ?_) (fun c_6 => ?_)
        · skip
          refine lv_aload_n hx hb d_S1_indexOf_29 rfl (lv_at hl 2 rfl) ?_
          refine lv_iload_n hx hb d_S1_indexOf_30 rfl (lv_at hl 3 rfl) ?_
          refine lv_iload_n hx hb d_S1_indexOf_31 rfl (lv_at hl 1 rfl) ?_
          refine lv_iload_n hx hb d_S1_indexOf_32 rfl (lv_at hl 0 rfl) ?_
          refine gc_S (n := 4) [.ref (G.2.1 j), .int (nI c0), .int (nI 0), .int (nI (tx_l.getD j 0))] [] hx hb hml hown hts hK hN hX hP hS (c_S1_indexOfChar j c0 (by omega) (by omega)) k_288 k_289 k_12 k_290 (by decide +kernel) ⟨by decide, by decide⟩ rfl hl.1 rfl (Nat.le_of_ble_eq_true rfl) d_S1_indexOf_33 ⟨by decide, by decide⟩ (fun r N1 M_7 H locs hw hP hS => ?_)
          obtain ⟨rfl, hw⟩ := hw
          rcases hw with ⟨kv_8, c_9, c_10, c_11, rfl, rfl⟩ | ⟨c_12, rfl, rfl⟩
          · skip
            refine W.eq (g2 := F0 m 36 ls [.int (nI kv_8)]) rfl ?_
            exact gc_iret hx hb hr hlk hP hS d_S1_indexOf_36 ⟨rfl, Or.inl ⟨kv_8, c_9, c_10, c_11, rfl, rfl⟩⟩
          · skip
            refine W.eq (g2 := F0 m 36 ls [.int (-1)]) rfl ?_
            exact gc_iret hx hb hr hlk hP hS d_S1_indexOf_36 ⟨rfl, Or.inr ⟨c_12, rfl, rfl⟩⟩
        · skip
          refine lv_iconst (v := (-1)) hx hb d_S1_indexOf_27 (by decide) ?_
          exact gc_iret hx hb hr hlk hP hS d_S1_indexOf_28 ⟨rfl, Or.inr ⟨fun i hi => by omega, rfl, rfl⟩⟩
      · skip
        refine lv_istore_n (lv' := [(3, .int (nI (tx_l.getD j 0))), (2, .int (nI 0)), (0, .ref (G.2.1 j)), (1, .int (nI c0))]) hx hb d_S1_indexOf_21 rfl hl (by decide) rfl (fun ls hl => ?_)
        refine lv_iload_n hx hb d_S1_indexOf_22 rfl (lv_at hl 1 rfl) ?_
        refine lv_iload_n hx hb d_S1_indexOf_23 rfl (lv_at hl 0 rfl) ?_
        refine ln_lt (tgt := 29) hx hb d_S1_indexOf_24 (by decide) (by omega) (by omega) (fun c_13 => ?_) (fun c_13 => ?_)
        · skip
          refine lv_aload_n hx hb d_S1_indexOf_29 rfl (lv_at hl 2 rfl) ?_
          refine lv_iload_n hx hb d_S1_indexOf_30 rfl (lv_at hl 3 rfl) ?_
          refine lv_iload_n hx hb d_S1_indexOf_31 rfl (lv_at hl 1 rfl) ?_
          refine lv_iload_n hx hb d_S1_indexOf_32 rfl (lv_at hl 0 rfl) ?_
          refine gc_S (n := 4) [.ref (G.2.1 j), .int (nI c0), .int (nI 0), .int (nI (tx_l.getD j 0))] [] hx hb hml hown hts hK hN hX hP hS (c_S1_indexOfChar j c0 (by omega) (by omega)) k_288 k_289 k_12 k_290 (by decide +kernel) ⟨by decide, by decide⟩ rfl hl.1 rfl (Nat.le_of_ble_eq_true rfl) d_S1_indexOf_33 ⟨by decide, by decide⟩ (fun r N1 M_14 H locs hw hP hS => ?_)
          obtain ⟨rfl, hw⟩ := hw
          rcases hw with ⟨kv_15, c_16, c_17, c_18, rfl, rfl⟩ | ⟨c_19, rfl, rfl⟩
          · skip
            refine W.eq (g2 := F0 m 36 ls [.int (nI kv_15)]) rfl ?_
            exact gc_iret hx hb hr hlk hP hS d_S1_indexOf_36 ⟨rfl, Or.inl ⟨kv_15, c_16, c_17, c_18, rfl, rfl⟩⟩
          · skip
            refine W.eq (g2 := F0 m 36 ls [.int (-1)]) rfl ?_
            exact gc_iret hx hb hr hlk hP hS d_S1_indexOf_36 ⟨rfl, Or.inr ⟨c_19, rfl, rfl⟩⟩
        · skip
          refine lv_iconst (v := (-1)) hx hb d_S1_indexOf_27 (by decide) ?_
          exact gc_iret hx hb hr hlk hP hS d_S1_indexOf_28 ⟨rfl, Or.inr ⟨fun i hi => by omega, rfl, rfl⟩⟩
    · skip
      refine lv_istore_n (lv' := [(2, .int (nI 0)), (0, .ref (G.2.1 j)), (1, .int (nI c0)), (3, .int (nI (tx_l.getD j 0)))]) hx hb d_S1_indexOf_14 rfl hl (by decide) rfl (fun ls hl => ?_)
      refine lv_iload_n hx hb d_S1_indexOf_15 rfl (lv_at hl 3 rfl) ?_
      refine lv_aload_n hx hb d_S1_indexOf_16 rfl (lv_at hl 1 rfl) ?_
      refine va_tlen (v := nI (tx_l.getD j 0)) hx hb (hX.2.2.2.1.1 j (by omega)).2.2.2 hS rfl d_S1_indexOf_17 ?_
      refine gn_min hx hb (by rw [hml]; exact hl.1.symm) hown htl k_285 k_286 k_13 k_287 (by decide) (Nat.le_of_ble_eq_true rfl) (by decide) (by decide) (by omega) (by omega) d_S1_indexOf_18 (fun c_20 => ?_) (fun c_20 => ?_)
      · skip
        refine lv_istore_n (lv' := [(3, .int (nI (tx_l.getD j 0))), (2, .int (nI 0)), (0, .ref (G.2.1 j)), (1, .int (nI c0))]) hx hb d_S1_indexOf_21 rfl hl (by decide) rfl (fun ls hl => ?_)
        refine lv_iload_n hx hb d_S1_indexOf_22 rfl (lv_at hl 1 rfl) ?_
        refine lv_iload_n hx hb d_S1_indexOf_23 rfl (lv_at hl 0 rfl) ?_
        refine ln_lt (tgt := 29) hx hb d_S1_indexOf_24 (by decide) (by omega) (by omega) (fun c_21 => ?_) (fun c_21 => ?_)
        · skip
          refine lv_aload_n hx hb d_S1_indexOf_29 rfl (lv_at hl 2 rfl) ?_
          refine lv_iload_n hx hb d_S1_indexOf_30 rfl (lv_at hl 3 rfl) ?_
          refine lv_iload_n hx hb d_S1_indexOf_31 rfl (lv_at hl 1 rfl) ?_
          refine lv_iload_n hx hb d_S1_indexOf_32 rfl (lv_at hl 0 rfl) ?_
          refine gc_S (n := 4) [.ref (G.2.1 j), .int (nI c0), .int (nI 0), .int (nI (tx_l.getD j 0))] [] hx hb hml hown hts hK hN hX hP hS (c_S1_indexOfChar j c0 (by omega) (by omega)) k_288 k_289 k_12 k_290 (by decide +kernel) ⟨by decide, by decide⟩ rfl hl.1 rfl (Nat.le_of_ble_eq_true rfl) d_S1_indexOf_33 ⟨by decide, by decide⟩ (fun r N1 M_22 H locs hw hP hS => ?_)
          obtain ⟨rfl, hw⟩ := hw
          rcases hw with ⟨kv_23, c_24, c_25, c_26, rfl, rfl⟩ | ⟨c_27, rfl, rfl⟩
          · skip
            refine W.eq (g2 := F0 m 36 ls [.int (nI kv_23)]) rfl ?_
            exact gc_iret hx hb hr hlk hP hS d_S1_indexOf_36 ⟨rfl, Or.inl ⟨kv_23, c_24, c_25, c_26, rfl, rfl⟩⟩
          · skip
            refine W.eq (g2 := F0 m 36 ls [.int (-1)]) rfl ?_
            exact gc_iret hx hb hr hlk hP hS d_S1_indexOf_36 ⟨rfl, Or.inr ⟨c_27, rfl, rfl⟩⟩
        · skip
          refine lv_iconst (v := (-1)) hx hb d_S1_indexOf_27 (by decide) ?_
          exact gc_iret hx hb hr hlk hP hS d_S1_indexOf_28 ⟨rfl, Or.inr ⟨fun i hi => by omega, rfl, rfl⟩⟩
      · skip
        refine lv_istore_n (lv' := [(3, .int (nI (tx_l.getD j 0))), (2, .int (nI 0)), (0, .ref (G.2.1 j)), (1, .int (nI c0))]) hx hb d_S1_indexOf_21 rfl hl (by decide) rfl (fun ls hl => ?_)
        refine lv_iload_n hx hb d_S1_indexOf_22 rfl (lv_at hl 1 rfl) ?_
        refine lv_iload_n hx hb d_S1_indexOf_23 rfl (lv_at hl 0 rfl) ?_
        refine ln_lt (tgt := 29) hx hb d_S1_indexOf_24 (by decide) (by omega) (by omega) (fun c_28 => ?_) (fun c_28 => ?_)
        · skip
          refine lv_aload_n hx hb d_S1_indexOf_29 rfl (lv_at hl 2 rfl) ?_
          refine lv_iload_n hx hb d_S1_indexOf_30 rfl (lv_at hl 3 rfl) ?_
          refine lv_iload_n hx hb d_S1_indexOf_31 rfl (lv_at hl 1 rfl) ?_
          refine lv_iload_n hx hb d_S1_indexOf_32 rfl (lv_at hl 0 rfl) ?_
          refine gc_S (n := 4) [.ref (G.2.1 j), .int (nI c0), .int (nI 0), .int (nI (tx_l.getD j 0))] [] hx hb hml hown hts hK hN hX hP hS (c_S1_indexOfChar j c0 (by omega) (by omega)) k_288 k_289 k_12 k_290 (by decide +kernel) ⟨by decide, by decide⟩ rfl hl.1 rfl (Nat.le_of_ble_eq_true rfl) d_S1_indexOf_33 ⟨by decide, by decide⟩ (fun r N1 M_29 H locs hw hP hS => ?_)
          obtain ⟨rfl, hw⟩ := hw
          rcases hw with ⟨kv_30, c_31, c_32, c_33, rfl, rfl⟩ | ⟨c_34, rfl, rfl⟩
          · skip
            refine W.eq (g2 := F0 m 36 ls [.int (nI kv_30)]) rfl ?_
            exact gc_iret hx hb hr hlk hP hS d_S1_indexOf_36 ⟨rfl, Or.inl ⟨kv_30, c_31, c_32, c_33, rfl, rfl⟩⟩
          · skip
            refine W.eq (g2 := F0 m 36 ls [.int (-1)]) rfl ?_
            exact gc_iret hx hb hr hlk hP hS d_S1_indexOf_36 ⟨rfl, Or.inr ⟨c_34, rfl, rfl⟩⟩
        · skip
          refine lv_iconst (v := (-1)) hx hb d_S1_indexOf_27 (by decide) ?_
          exact gc_iret hx hb hr hlk hP hS d_S1_indexOf_28 ⟨rfl, Or.inr ⟨fun i hi => by omega, rfl, rfl⟩⟩
  · skip
    refine W.eq (g2 := F0 m 4 ls [.int (nI 0)]) rfl ?_
    refine lv_if_ne (tgt := 9) hx hb d_S1_indexOf_4 (by decide) (fun q => absurd q (by decide)) (fun _ => ?_)
    refine lv_iconst (v := (-1)) hx hb d_S1_indexOf_7 (by decide) ?_
    exact gc_iret hx hb hr hlk hP hS d_S1_indexOf_8 ⟨rfl, Or.inr ⟨fun i hi => by have := (tc_ok j hj i hi).2; omega, rfl, rfl⟩⟩
set_option maxHeartbeats 4000000 in
set_option maxRecDepth 100000 in
theorem c_St_indexOf2 (j c0 : Nat) (hj : j < 4) (hc : c0 < 65536) : gC l D ca A G y_St_indexOf2 (.code y_St_indexOf2 b_St_indexOf2 3 (some .int)) ({ frames := 2, cells := 0, slots := 0, locals := 48 }) N M [.ref (G.1 j), .int (nI c0), .int (nI 0)] gm_i (fun (r : Int32) (N1 : Nat) (M1 : gm_M) => N = N1 ∧ ((∃ (k : Nat), (k < tx_l.getD j 0) ∧ (tc j k = c0) ∧ (∀ i, i < k → tc j i ≠ c0) ∧ M = M1 ∧ nI k = r) ∨ ((∀ i, i < tx_l.getD j 0 → tc j i ≠ c0) ∧ M = M1 ∧ (-1) = r))) := by
  refine gm_body (by decide) (Nat.le_of_ble_eq_true rfl) (fun p e s m below meth c ls hx hb hr hts hown hlk hml hnm hP hK hN hX hS hl => ?_)
  have htl : ∀ w ∈ LW, w.before _ s = true := fun w h => hts w (List.mem_cons_of_mem _ h)
  have hown : s.vm.findClass "java/lang/String" = some m.cls := hown
  have hl : lv_has ls 3 [(0, .ref (G.1 j)), (1, .int (nI c0)), (2, .int (nI 0))] := hl
  refine lv_aload_n hx hb d_St_indexOf2_0 rfl (lv_at hl 0 rfl) ?_
  refine gc_T (n := 0) [] [] hx hb hml hown hts hK hN hX hP hS (c_St_isLatin1 j (by omega)) (vk_recv hX.2.2.2.1 (by omega) hS) k_262 k_263 k_264 k_11 k_265 (by decide +kernel) ⟨by decide, by decide⟩ rfl hl.1 rfl (Nat.le_of_ble_eq_true rfl) d_St_indexOf2_1 ⟨by decide, by decide⟩ (fun r N1 M_1 H locs hw hP hS => ?_)
  obtain ⟨rfl, hw⟩ := hw
  obtain ⟨rfl, rfl⟩ := hw
  refine W.eq (g2 := F0 m 4 ls [.int (nI 1)]) rfl ?_
  refine lv_if_eq (tgt := 23) hx hb d_St_indexOf2_4 (by decide) (fun q => absurd q (by decide)) (fun _ => ?_)
  refine lv_aload_n hx hb d_St_indexOf2_7 rfl (lv_at hl 0 rfl) ?_
  refine vk_getf hx hb (hX.2.2.2.1.1 j (by omega)).2.2.1 hS hown (htl _ k_1038) (fun _ h => h) d_St_indexOf2_8 ?_
  refine lv_iload_n hx hb d_St_indexOf2_11 rfl (lv_at hl 1 rfl) ?_
  refine lv_iload_n hx hb d_St_indexOf2_12 rfl (lv_at hl 2 rfl) ?_
  refine lv_aload_n hx hb d_St_indexOf2_13 rfl (lv_at hl 0 rfl) ?_
  refine gc_T (n := 0) [] [.int (nI 0), .int (nI c0), .ref (G.2.1 j)] hx hb hml hown hts hK hN hX hP hS (c_St_length j (by omega)) (vk_recv hX.2.2.2.1 (by omega) hS) k_268 k_269 k_270 k_11 k_271 (by decide +kernel) ⟨by decide, by decide⟩ rfl hl.1 rfl (Nat.le_of_ble_eq_true rfl) d_St_indexOf2_14 ⟨by decide, by decide⟩ (fun r N1 M_2 H locs hw hP hS => ?_)
  obtain ⟨rfl, hw⟩ := hw
  obtain ⟨rfl, rfl⟩ := hw
  refine W.eq (g2 := F0 m 17 ls [.int (nI (tx_l.getD j 0)), .int (nI 0), .int (nI c0), .ref (G.2.1 j)]) rfl ?_
  refine gc_S (n := 4) [.ref (G.2.1 j), .int (nI c0), .int (nI 0), .int (nI (tx_l.getD j 0))] [] hx hb hml hown hts hK hN hX hP hS (c_S1_indexOf j c0 (by omega) (by omega)) k_276 k_277 k_12 k_278 (by decide +kernel) ⟨by decide, by decide⟩ rfl hl.1 rfl (Nat.le_of_ble_eq_true rfl) d_St_indexOf2_17 ⟨by decide, by decide⟩ (fun r N1 M_3 H locs hw hP hS => ?_)
  obtain ⟨rfl, hw⟩ := hw
  rcases hw with ⟨kv_4, c_5, c_6, c_7, rfl, rfl⟩ | ⟨c_8, rfl, rfl⟩
  · skip
    refine W.eq (g2 := F0 m 20 ls [.int (nI kv_4)]) rfl ?_
    refine lv_goto (tgt := 36) hx hb d_St_indexOf2_20 (by decide) ?_
    exact gc_iret hx hb hr hlk hP hS d_St_indexOf2_36 ⟨rfl, Or.inl ⟨kv_4, c_5, c_6, c_7, rfl, rfl⟩⟩
  · skip
    refine W.eq (g2 := F0 m 20 ls [.int (-1)]) rfl ?_
    refine lv_goto (tgt := 36) hx hb d_St_indexOf2_20 (by decide) ?_
    exact gc_iret hx hb hr hlk hP hS d_St_indexOf2_36 ⟨rfl, Or.inr ⟨c_8, rfl, rfl⟩⟩
set_option maxHeartbeats 4000000 in
set_option maxRecDepth 100000 in
theorem c_St_indexOf1 (j c0 : Nat) (hj : j < 4) (hc : c0 < 65536) : gC l D ca A G y_St_indexOf1 (.code y_St_indexOf1 b_St_indexOf1 2 (some .int)) ({ frames := 3, cells := 0, slots := 0, locals := 70 }) N M [.ref (G.1 j), .int (nI c0)] gm_i (fun (r : Int32) (N1 : Nat) (M1 : gm_M) => N = N1 ∧ ((∃ (k : Nat), (k < tx_l.getD j 0) ∧ (tc j k = c0) ∧ (∀ i, i < k → tc j i ≠ c0) ∧ M = M1 ∧ nI k = r) ∨ ((∀ i, i < tx_l.getD j 0 → tc j i ≠ c0) ∧ M = M1 ∧ (-1) = r))) := by
  refine gm_body (by decide) (Nat.le_of_ble_eq_true rfl) (fun p e s m below meth c ls hx hb hr hts hown hlk hml hnm hP hK hN hX hS hl => ?_)
  have htl : ∀ w ∈ LW, w.before _ s = true := fun w h => hts w (List.mem_cons_of_mem _ h)
  have hown : s.vm.findClass "java/lang/String" = some m.cls := hown
  have hl : lv_has ls 2 [(0, .ref (G.1 j)), (1, .int (nI c0))] := hl
  refine lv_aload_n hx hb d_St_indexOf1_0 rfl (lv_at hl 0 rfl) ?_
  refine lv_iload_n hx hb d_St_indexOf1_1 rfl (lv_at hl 1 rfl) ?_
  refine lv_iconst (v := nI 0) hx hb d_St_indexOf1_2 (by decide) ?_
  refine gc_T (n := 2) [.int (nI c0), .int (nI 0)] [] hx hb hml hown hts hK hN hX hP hS (c_St_indexOf2 j c0 (by omega) (by omega)) (vk_recv hX.2.2.2.1 (by omega) hS) k_258 k_259 k_260 k_11 k_261 (by decide +kernel) ⟨by decide, by decide⟩ rfl hl.1 rfl (Nat.le_of_ble_eq_true rfl) d_St_indexOf1_3 ⟨by decide, by decide⟩ (fun r N1 M_1 H locs hw hP hS => ?_)
  obtain ⟨rfl, hw⟩ := hw
  rcases hw with ⟨kv_2, c_3, c_4, c_5, rfl, rfl⟩ | ⟨c_6, rfl, rfl⟩
  · skip
    refine W.eq (g2 := F0 m 6 ls [.int (nI kv_2)]) rfl ?_
    exact gc_iret hx hb hr hlk hP hS d_St_indexOf1_6 ⟨rfl, Or.inl ⟨kv_2, c_3, c_4, c_5, rfl, rfl⟩⟩
  · skip
    refine W.eq (g2 := F0 m 6 ls [.int (-1)]) rfl ?_
    exact gc_iret hx hb hr hlk hP hS d_St_indexOf1_6 ⟨rfl, Or.inr ⟨c_6, rfl, rfl⟩⟩
set_option maxHeartbeats 4000000 in
set_option maxRecDepth 100000 in
theorem c_Pr_checkIndex_n (a b : Nat) (ha : a < b) (hb0 : b < 2 ^ 31) : gC l D ca A G y_Pr_checkIndex (.code y_Pr_checkIndex b_Pr_checkIndex 3 (some .int)) ({ frames := 0, cells := 0, slots := 0, locals := 0 }) N M [.int (nI a), .int (nI b), .null] gm_i (fun (r : Int32) (N1 : Nat) (M1 : gm_M) => N = N1 ∧ M = M1 ∧ nI a = r) := by
  refine gm_body (by decide) (Nat.le_of_ble_eq_true rfl) (fun p e s m below meth c ls hx hb hr hts hown hlk hml hnm hP hK hN hX hS hl => ?_)
  have htl : ∀ w ∈ LW, w.before _ s = true := fun w h => hts w (List.mem_cons_of_mem _ h)
  have hown : s.vm.findClass "jdk/internal/util/Preconditions" = some m.cls := hown
  have hl : lv_has ls 3 [(0, .int (nI a)), (1, .int (nI b)), (2, .null)] := hl
  refine lv_iload_n hx hb d_Pr_checkIndex_0 rfl (lv_at hl 0 rfl) ?_
  refine lz_lt (tgt := 9) hx hb d_Pr_checkIndex_1 (by decide) (by omega) ?_
  refine lv_iload_n hx hb d_Pr_checkIndex_4 rfl (lv_at hl 0 rfl) ?_
  refine lv_iload_n hx hb d_Pr_checkIndex_5 rfl (lv_at hl 1 rfl) ?_
  refine ln_lt (tgt := 16) hx hb d_Pr_checkIndex_6 (by decide) (by omega) (by omega) (fun c_2 => ?_) (fun c_2 => ?_)
  · skip
    refine lv_iload_n hx hb d_Pr_checkIndex_16 rfl (lv_at hl 0 rfl) ?_
    exact gc_iret hx hb hr hlk hP hS d_Pr_checkIndex_17 ⟨rfl, rfl, rfl⟩
  · omega
set_option maxHeartbeats 4000000 in
set_option maxRecDepth 100000 in
theorem c_Pr_checkIndex_r (a b t0 : Nat) (ha : a < b) (hb0 : b < 2 ^ 31) : gC l D ca A G y_Pr_checkIndex (.code y_Pr_checkIndex b_Pr_checkIndex 3 (some .int)) ({ frames := 0, cells := 0, slots := 0, locals := 0 }) N M [.int (nI a), .int (nI b), .ref t0] gm_i (fun (r : Int32) (N1 : Nat) (M1 : gm_M) => N = N1 ∧ M = M1 ∧ nI a = r) := by
  refine gm_body (by decide) (Nat.le_of_ble_eq_true rfl) (fun p e s m below meth c ls hx hb hr hts hown hlk hml hnm hP hK hN hX hS hl => ?_)
  have htl : ∀ w ∈ LW, w.before _ s = true := fun w h => hts w (List.mem_cons_of_mem _ h)
  have hown : s.vm.findClass "jdk/internal/util/Preconditions" = some m.cls := hown
  have hl : lv_has ls 3 [(0, .int (nI a)), (1, .int (nI b)), (2, .ref t0)] := hl
  refine lv_iload_n hx hb d_Pr_checkIndex_0 rfl (lv_at hl 0 rfl) ?_
  refine lz_lt (tgt := 9) hx hb d_Pr_checkIndex_1 (by decide) (by omega) ?_
  refine lv_iload_n hx hb d_Pr_checkIndex_4 rfl (lv_at hl 0 rfl) ?_
  refine lv_iload_n hx hb d_Pr_checkIndex_5 rfl (lv_at hl 1 rfl) ?_
  refine ln_lt (tgt := 16) hx hb d_Pr_checkIndex_6 (by decide) (by omega) (by omega) (fun c_2 => ?_) (fun c_2 => ?_)
  · skip
    refine lv_iload_n hx hb d_Pr_checkIndex_16 rfl (lv_at hl 0 rfl) ?_
    exact gc_iret hx hb hr hlk hP hS d_Pr_checkIndex_17 ⟨rfl, rfl, rfl⟩
  · omega
set_option maxHeartbeats 4000000 in
set_option maxRecDepth 100000 in
theorem c_St_checkIndex (a b : Nat) (ha : a < b) (hb0 : b < 2 ^ 31) : gC l D ca A G y_St_checkIndex (.code y_St_checkIndex b_St_checkIndex 2 none) ({ frames := 1, cells := 0, slots := 0, locals := 22 }) N M [.int (nI a), .int (nI b)] gm_v (fun (_ : Unit) (N1 : Nat) (M1 : gm_M) => N = N1 ∧ M = M1) := by
  refine gm_body (by decide) (Nat.le_of_ble_eq_true rfl) (fun p e s m below meth c ls hx hb hr hts hown hlk hml hnm hP hK hN hX hS hl => ?_)
  have htl : ∀ w ∈ LW, w.before _ s = true := fun w h => hts w (List.mem_cons_of_mem _ h)
  have hown : s.vm.findClass "java/lang/String" = some m.cls := hown
  have hl : lv_has ls 2 [(0, .int (nI a)), (1, .int (nI b))] := hl
  refine lv_iload_n hx hb d_St_checkIndex_0 rfl (lv_at hl 0 rfl) ?_
  refine lv_iload_n hx hb d_St_checkIndex_1 rfl (lv_at hl 1 rfl) ?_
  rcases hX.2.2.2.2.2.2.2 with hq | ⟨tq, hq⟩
  · skip
    refine va_gets hx hb hq hS hown (htl _ k_309) (fun _ h => h) d_St_checkIndex_2 ?_
    refine gc_S (n := 3) [.int (nI a), .int (nI b), .null] [] hx hb hml hown hts hK hN hX hP hS (c_Pr_checkIndex_n a b ha hb0) k_453 k_454 k_15 k_455 (by decide +kernel) ⟨by decide, by decide⟩ rfl hl.1 rfl (Nat.le_of_ble_eq_true rfl) d_St_checkIndex_5 ⟨by decide, by decide⟩ (fun r N1 M_1 H locs hw hP hS => ?_)
    obtain ⟨rfl, hw⟩ := hw
    obtain ⟨rfl, rfl⟩ := hw
    refine W.eq (g2 := F0 m 8 ls [.int (nI a)]) rfl ?_
    refine lv_pop hx hb d_St_checkIndex_8 rfl ?_
    exact gc_vret hx hb hr hlk hP hS d_St_checkIndex_9 ⟨rfl, rfl⟩
  · skip
    refine va_gets hx hb hq hS hown (htl _ k_309) (fun _ h => h) d_St_checkIndex_2 ?_
    refine gc_S (n := 3) [.int (nI a), .int (nI b), .ref tq] [] hx hb hml hown hts hK hN hX hP hS (c_Pr_checkIndex_r a b tq ha hb0) k_453 k_454 k_15 k_455 (by decide +kernel) ⟨by decide, by decide⟩ rfl hl.1 rfl (Nat.le_of_ble_eq_true rfl) d_St_checkIndex_5 ⟨by decide, by decide⟩ (fun r N1 M_2 H locs hw hP hS => ?_)
    obtain ⟨rfl, hw⟩ := hw
    obtain ⟨rfl, rfl⟩ := hw
    refine W.eq (g2 := F0 m 8 ls [.int (nI a)]) rfl ?_
    refine lv_pop hx hb d_St_checkIndex_8 rfl ?_
    exact gc_vret hx hb hr hlk hP hS d_St_checkIndex_9 ⟨rfl, rfl⟩
set_option maxHeartbeats 4000000 in
set_option maxRecDepth 100000 in
theorem c_S1_charAt (j k : Nat) (hj : j < 4) (hk : k < tx_l.getD j 0) : gC l D ca A G y_S1_charAt (.code y_S1_charAt b_S1_charAt 2 (some .char)) ({ frames := 2, cells := 0, slots := 0, locals := 43 }) N M [.ref (G.2.1 j), .int (nI k)] gm_i (fun (r : Int32) (N1 : Nat) (M1 : gm_M) => N = N1 ∧ M = M1 ∧ nI (tc j k) = r) := by
  refine gm_body (by decide) (Nat.le_of_ble_eq_true rfl) (fun p e s m below meth c ls hx hb hr hts hown hlk hml hnm hP hK hN hX hS hl => ?_)
  have htl : ∀ w ∈ LW, w.before _ s = true := fun w h => hts w (List.mem_cons_of_mem _ h)
  have hown : s.vm.findClass "java/lang/StringLatin1" = some m.cls := hown
  have hl : lv_has ls 2 [(0, .ref (G.2.1 j)), (1, .int (nI k))] := hl
  have hL := tx_lt j
  have hT := (tc_ok j hj k hk).2
  refine lv_iload_n hx hb d_S1_charAt_0 rfl (lv_at hl 1 rfl) ?_
  refine lv_aload_n hx hb d_S1_charAt_1 rfl (lv_at hl 0 rfl) ?_
  refine va_tlen (v := nI (tx_l.getD j 0)) hx hb (hX.2.2.2.1.1 j (by omega)).2.2.2 hS rfl d_S1_charAt_2 ?_
  refine gc_S (n := 2) [.int (nI k), .int (nI (tx_l.getD j 0))] [] hx hb hml hown hts hK hN hX hP hS (c_St_checkIndex k (tx_l.getD j 0) (by omega) (by omega)) k_450 k_451 k_11 k_452 (by decide +kernel) ⟨by decide, by decide⟩ rfl hl.1 rfl (Nat.le_of_ble_eq_true rfl) d_S1_charAt_3 ⟨by decide, by decide⟩ (fun r N1 M_1 H locs hw hP hS => ?_)
  obtain ⟨rfl, hw⟩ := hw
  obtain rfl := hw
  refine W.eq (g2 := F0 m 6 ls []) rfl ?_
  refine lv_aload_n hx hb d_S1_charAt_6 rfl (lv_at hl 0 rfl) ?_
  refine lv_iload_n hx hb d_S1_charAt_7 rfl (lv_at hl 1 rfl) ?_
  refine va_tb (v := .int (nI (tc j k))) hx hb (hX.2.2.2.1.1 j (by omega)).2.2.2 hS (vp_in_nI (by omega) (tx_lt j)) (by rw [nI_clamp (Nat.lt_trans (by omega) (tx_lt j)), (tc_ok j (by omega) k (by omega)).1]) d_S1_charAt_8 ?_
  refine lv_sipush (v := nI 255) hx hb d_S1_charAt_9 (by decide) ?_
  refine lv_iand hx hb d_S1_charAt_12 ?_
  rw [show (nI (tc j k)) &&& (nI 255) = nI ((tc j k) &&& 255) from nx_and _ _]
  refine lv_i2c (v := nI (tc j k)) hx hb d_S1_charAt_13 (by rw [← nx_and, nI_and255 (by omega)]; exact nI_i2c (by omega)) ?_
  exact gc_zret hx hb hr hlk hP hS d_S1_charAt_14 (pk_charN (by omega)).1 ⟨rfl, rfl, rfl⟩
set_option maxHeartbeats 4000000 in
set_option maxRecDepth 100000 in
theorem c_St_charAt (j k : Nat) (hj : j < 4) (hk : k < tx_l.getD j 0) : gC l D ca A G y_St_charAt (.code y_St_charAt b_St_charAt 2 (some .char)) ({ frames := 3, cells := 0, slots := 0, locals := 64 }) N M [.ref (G.1 j), .int (nI k)] gm_i (fun (r : Int32) (N1 : Nat) (M1 : gm_M) => N = N1 ∧ M = M1 ∧ nI (tc j k) = r) := by
  refine gm_body (by decide) (Nat.le_of_ble_eq_true rfl) (fun p e s m below meth c ls hx hb hr hts hown hlk hml hnm hP hK hN hX hS hl => ?_)
  have htl : ∀ w ∈ LW, w.before _ s = true := fun w h => hts w (List.mem_cons_of_mem _ h)
  have hown : s.vm.findClass "java/lang/String" = some m.cls := hown
  have hl : lv_has ls 2 [(0, .ref (G.1 j)), (1, .int (nI k))] := hl
  have hL := tx_lt j
  have hT := (tc_ok j hj k hk).2
  refine lv_aload_n hx hb d_St_charAt_0 rfl (lv_at hl 0 rfl) ?_
  refine gc_T (n := 0) [] [] hx hb hml hown hts hK hN hX hP hS (c_St_isLatin1 j (by omega)) (vk_recv hX.2.2.2.1 (by omega) hS) k_262 k_263 k_264 k_11 k_265 (by decide +kernel) ⟨by decide, by decide⟩ rfl hl.1 rfl (Nat.le_of_ble_eq_true rfl) d_St_charAt_1 ⟨by decide, by decide⟩ (fun r N1 M_1 H locs hw hP hS => ?_)
  obtain ⟨rfl, hw⟩ := hw
  obtain ⟨rfl, rfl⟩ := hw
  refine W.eq (g2 := F0 m 4 ls [.int (nI 1)]) rfl ?_
  refine lv_if_eq (tgt := 16) hx hb d_St_charAt_4 (by decide) (fun q => absurd q (by decide)) (fun _ => ?_)
  refine lv_aload_n hx hb d_St_charAt_7 rfl (lv_at hl 0 rfl) ?_
  refine vk_getf hx hb (hX.2.2.2.1.1 j (by omega)).2.2.1 hS hown (htl _ k_1038) (fun _ h => h) d_St_charAt_8 ?_
  refine lv_iload_n hx hb d_St_charAt_11 rfl (lv_at hl 1 rfl) ?_
  refine gc_S (n := 2) [.ref (G.2.1 j), .int (nI k)] [] hx hb hml hown hts hK hN hX hP hS (c_S1_charAt j k (by omega) (by omega)) k_447 k_448 k_12 k_449 (by decide +kernel) ⟨by decide, by decide⟩ rfl hl.1 rfl (Nat.le_of_ble_eq_true rfl) d_St_charAt_12 ⟨by decide, by decide⟩ (fun r N1 M_2 H locs hw hP hS => ?_)
  obtain ⟨rfl, hw⟩ := hw
  obtain ⟨rfl, rfl⟩ := hw
  refine W.eq (g2 := F0 m 15 ls [.int (nI (tc j k))]) rfl ?_
  exact gc_zret hx hb hr hlk hP hS d_St_charAt_15 (pk_charN (by omega)).1 ⟨rfl, rfl, rfl⟩
end C9
