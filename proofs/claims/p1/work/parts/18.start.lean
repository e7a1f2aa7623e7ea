set_option maxHeartbeats 4000000 in
set_option maxRecDepth 100000 in
theorem whole_start {p : Program} {e : Env} {s : State} {m : MethodId} {below : List Frame} {meth : Method} {c : Code} (l : Launch) (hflags : l.flags = flags0) {b L : Nat} {xs : Nat → Int32} (hL : L ≤ 5) (C0 : lw_At p s m meth c b L xs) : W p l e room_1 s m #[Value.ref b] below meth c s.heap [] 0 0 (lw_Z below #[Value.ref b] s) (entryFrame m ([Value.ref b] : List Value).toArray 4) := by
  obtain ⟨hx, hb, hr, hml, hown, hts, hX, hbl, hlocks, hgv⟩ := C0
  have hts9 : ∀ w ∈ zTbl, w.before #[Value.ref b] s = true := fun w h => hts w (List.mem_filter.mp h).1
  obtain ⟨D, cy, hK⟩ := z_world hts9
  have C : zC D cy p s m #[Value.ref b] meth c RL cL_law 4 := ⟨hx, hb, hml, hown, hts9, hK, zW_of hts9, hlocks⟩
  have hbA : ¬ zLA s b := Nat.not_le.mpr hbl
  have hA : ∀ q, s.heap.size ≤ q → zLA s q := fun q h => h
  have hS : va_S (zLA s) s.heap s.heap [] := va_S.rf
  have hz : zH D (zLA s) (fun _ => none) s.heap := fun a e h => (by cases h)
  have hl := lv_entry ([.ref b]) (n := 4) (Nat.le_of_ble_eq_true rfl)
  rw [lg_entry_eq]
  generalize (lg_sl ([.ref b]) ++ List.replicate (4 - (lg_sl ([.ref b])).length) Slot.unset).toArray = ls at hl ⊢
  have hl : lv_has ls 4 [(0, .ref b)] := hl
  have hb : c.code = cL_law := hb
  obtain ⟨f, hf⟩ : ∃ g : zM, g = fun _ => none := ⟨_, rfl⟩
  rw [← hf] at hz
  refine z_new (fs := [.null, .null, .null, .int 0, .null, .int 0, .null, .int 0, .null, .null, .long 0]) C hz hS hA zl7 mLL_7 mIa_RX7 mIn_RX7 (by decide +kernel) (Nat.le_of_ble_eq_true rfl) (Nat.le_of_ble_eq_true rfl) dL_law_0 (fun q1 H f3 u2 a4 k5 hz hS => ?_)
  refine lv_dup hx hb dL_law_3 rfl ?_
  refine z_callIv (ret := none) (As := []) C hz hS hA hl (k_X7_init l D cy f3 q1 a4 ) zyX7_init mML_9 rfl rfl (Nat.le_of_ble_eq_true rfl) ⟨Nat.le_of_ble_eq_true rfl, Nat.le_of_ble_eq_true rfl⟩ ⟨Nat.le_of_ble_eq_true rfl, Nat.le_of_ble_eq_true rfl⟩ dL_law_4 (fun  f6 H locs h7 hz hS => ?_)
  obtain ⟨fa_8, fi_9, nu_10, fm_11, co_12, en_13, ke_14, ev_15, al_16, ra_17, kn_18, vq_19, ge_20, ea_21, ma_22, p23, p24, p25, p26, a27, a28, a29, a30, a31, a32, a33, a34, a35, a36, a37, k38⟩ := h7
  refine lv_astore_n (lv' := [(1, .ref q1), (0, .ref b)]) hx hb dL_law_7 rfl hl (by decide) rfl (fun ls hl => ?_)
  refine z_new (fs := [.int 0, .int 0, .int 0, .null, .int 0, .null, .int 0, .null, .null, .null, .null, .null, .null, .null, .int 0, .null, .null, .int 0, .null, .null, .null, .null, .long 0, .int 0, .null, .null, .null]) C hz hS hA zl8 mLL_10 mIa_RX8 mIn_RX8 (by decide +kernel) (Nat.le_of_ble_eq_true rfl) (Nat.le_of_ble_eq_true rfl) dL_law_8 (fun q39 H f41 u40 a42 k43 hz hS => ?_)
  refine lv_dup hx hb dL_law_11 rfl ?_
  refine z_callIv (ret := none) (As := []) C hz hS hA hl (k_X8_init l D cy f41 q39 a42 ) zyX8_init mML_12 rfl rfl (Nat.le_of_ble_eq_true rfl) ⟨Nat.le_of_ble_eq_true rfl, Nat.le_of_ble_eq_true rfl⟩ ⟨Nat.le_of_ble_eq_true rfl, Nat.le_of_ble_eq_true rfl⟩ dL_law_12 (fun  f44 H locs h45 hz hS => ?_)
  obtain ⟨wev_46, wnb_47, wki_48, wmy_49, wce_50, wiw_51, wli_52, wha_53, wwt_54, wfy_55, wfk_56, wem_57, wna_58, wpl_59, whs_60, wk_61, wk_62, wk_63, p64, p65, p66, p67, p68, p69, p70, p71, p72, p73, p74, p75, p76, p77, p78, p79, p80, p81, p82, p83, p84, p85, p86, p87, p88, p89, p90, p91, p92, p93, p94, a95, a96, a97, a98, a99, a100, a101, a102, a103, a104, a105, a106, a107, a108, a109, a110, a111, a112, a113, k114⟩ := h45
  refine lv_astore_n (lv' := [(2, .ref q39), (1, .ref q1), (0, .ref b)]) hx hb dL_law_15 rfl hl (by decide) rfl (fun ls hl => ?_)
  refine lv_iconst (v := 0) hx hb dL_law_16 (by decide) ?_
  refine lv_istore_n (lv' := [(3, .int 0), (2, .ref q39), (1, .ref q1), (0, .ref b)]) hx hb dL_law_17 rfl hl (by decide) rfl (fun ls hl => ?_)
  have hXX : zXF cy f6 q1 fa_8 fi_9 nu_10 fm_11 co_12 en_13 ke_14 ev_15 al_16 ra_17 kn_18 vq_19 ge_20 ea_21 ma_22 := ⟨a27, a28, a29, a30, a31, a32, a33, a34, a35, a36, a37, p23, p24, p25, p26⟩
  have a115 : f41 q1 = some (.inr (7, [.ref fa_8, .ref fi_9, .ref nu_10, .int 0, .ref fm_11, .int 0, .ref co_12, .int 0, .ref en_13, .ref ke_14, .long 1])) := (k43 _ (z_nn u40 a27)).trans a27
  have a116 : f44 q1 = some (.inr (7, [.ref fa_8, .ref fi_9, .ref nu_10, .int 0, .ref fm_11, .int 0, .ref co_12, .int 0, .ref en_13, .ref ke_14, .long 1])) := k114 _ _ a115 (z_nn u40 a27)
  have a117 : f41 fa_8 = some (.inr (2, [.int 0, .int (-1), .int 0, .ref ev_15])) := (k43 _ (z_nn u40 a28)).trans a28
  have a118 : f44 fa_8 = some (.inr (2, [.int 0, .int (-1), .int 0, .ref ev_15])) := k114 _ _ a117 (z_nn u40 a28)
  have a119 : f41 ev_15 = some (.inl (cy 0, 8, .inl (fun _ => 0))) := (k43 _ (z_nn u40 a29)).trans a29
  have a120 : f44 ev_15 = some (.inl (cy 0, 8, .inl (fun _ => 0))) := k114 _ _ a119 (z_nn u40 a29)
  have a121 : f41 fi_9 = some (.inr (5, [.ref al_16, .ref ra_17, .int 0])) := (k43 _ (z_nn u40 a30)).trans a30
  have a122 : f44 fi_9 = some (.inr (5, [.ref al_16, .ref ra_17, .int 0])) := k114 _ _ a121 (z_nn u40 a30)
  have a123 : f41 al_16 = some (.inl (cy 3, 60, .inr (.inr (.inr (.inr (fun _ => none)))))) := (k43 _ (z_nn u40 a31)).trans a31
  have a124 : f44 al_16 = some (.inl (cy 3, 60, .inr (.inr (.inr (.inr (fun _ => none)))))) := k114 _ _ a123 (z_nn u40 a31)
  have a125 : f41 ra_17 = some (.inl (cy 3, 60, .inr (.inr (.inr (.inr (fun _ => none)))))) := (k43 _ (z_nn u40 a32)).trans a32
  have a126 : f44 ra_17 = some (.inl (cy 3, 60, .inr (.inr (.inr (.inr (fun _ => none)))))) := k114 _ _ a125 (z_nn u40 a32)
  have a127 : f41 nu_10 = some (.inl (cy 0, 12, .inl (fun _ => 0))) := (k43 _ (z_nn u40 a33)).trans a33
  have a128 : f44 nu_10 = some (.inl (cy 0, 12, .inl (fun _ => 0))) := k114 _ _ a127 (z_nn u40 a33)
  have a129 : f41 fm_11 = some (.inl (cy 4, 6, .inr (.inr (.inr (.inr (fun _ => none)))))) := (k43 _ (z_nn u40 a34)).trans a34
  have a130 : f44 fm_11 = some (.inl (cy 4, 6, .inr (.inr (.inr (.inr (fun _ => none)))))) := k114 _ _ a129 (z_nn u40 a34)
  have a131 : f41 co_12 = some (.inl (cy 5, 60, .inr (.inr (.inr (.inr (fun _ => none)))))) := (k43 _ (z_nn u40 a35)).trans a35
  have a132 : f44 co_12 = some (.inl (cy 5, 60, .inr (.inr (.inr (.inr (fun _ => none)))))) := k114 _ _ a131 (z_nn u40 a35)
  have a133 : f41 en_13 = some (.inl (cy 6, 4, .inr (.inr (.inr (.inr ge_20))))) := (k43 _ (z_nn u40 a36)).trans a36
  have a134 : f44 en_13 = some (.inl (cy 6, 4, .inr (.inr (.inr (.inr ge_20))))) := k114 _ _ a133 (z_nn u40 a36)
  have a135 : f41 ke_14 = some (.inr (6, [.ref kn_18, .ref vq_19, .int 0])) := (k43 _ (z_nn u40 a37)).trans a37
  have a136 : f44 ke_14 = some (.inr (6, [.ref kn_18, .ref vq_19, .int 0])) := k114 _ _ a135 (z_nn u40 a37)
  have hXF : zXF cy f44 q1 fa_8 fi_9 nu_10 fm_11 co_12 en_13 ke_14 ev_15 al_16 ra_17 kn_18 vq_19 ge_20 ea_21 ma_22 := ⟨a116, a118, a120, a122, a124, a126, a128, a130, a132, a134, a136, p23, p24, (fun j hj => k114 _ _ ((k43 _ (z_nn u40 (p25 j hj))).trans (p25 j hj)) (z_nn u40 (p25 j hj))), (fun j hj => k114 _ _ ((k43 _ (z_nn u40 (p26 j hj))).trans (p26 j hj)) (z_nn u40 (p26 j hj)))⟩
  have hMF : zMF cy f44 q39 wev_46 wnb_47 wki_48 wmy_49 wce_50 wiw_51 wli_52 wha_53 wwt_54 wfy_55 wfk_56 wem_57 wna_58 wpl_59 whs_60 wk_61 wk_62 wk_63 := ⟨a95, a96, a97, a98, a99, a100, a101, a102, a103, a104, a105, a106, a107, a108, a109, a110, a111, a112, a113, p82, p83, p84, p85, p86, p87, p88, p89, p90, p91, p92, p93, p94⟩
  have hn_wev := z_bk k43 a42 p64
  have hn_wnb := z_bk k43 a42 p65
  have hn_wki := z_bk k43 a42 p66
  have hn_wmy := z_bk k43 a42 p67
  have hn_wce := z_bk k43 a42 p68
  have hn_wiw := z_bk k43 a42 p69
  have hn_wli := z_bk k43 a42 p70
  have hn_wha := z_bk k43 a42 p71
  have hn_wwt := z_bk k43 a42 p72
  have hn_wfy := z_bk k43 a42 p73
  have hn_wfk := z_bk k43 a42 p74
  have hn_wem := z_bk k43 a42 p75
  have hn_wna := z_bk k43 a42 p76
  have hn_wpl := z_bk k43 a42 p77
  have hn_whs := z_bk k43 a42 p78
  have hn_wk1 := z_bk k43 a42 p79
  have hn_wk2 := z_bk k43 a42 p80
  have hn_wk3 := z_bk k43 a42 p81
  refine W.widen (k := 100) (n := 5000) (Nat.le_of_ble_eq_true rfl) (Nat.le_of_ble_eq_true rfl) ?_
  by_cases hL5 : L < 5
  · have hXs := hX
    refine lv_iload_n hx hb dL_law_18 rfl (lv_at hl 0 rfl) ?_
    refine lv_aload_n hx hb dL_law_19 rfl (lv_at hl 3 rfl) ?_
    refine va_slen hx hb hXs hbl hbA hS dL_law_20 ?_
    refine lv_iconst (v := 5) hx hb dL_law_21 (by decide) ?_
    refine lv_isub hx hb dL_law_22 ?_
    refine lv_icmp_gt (tgt := 1366) hx hb dL_law_23 (by decide) (fun c137 => ?_) (fun c137 => ?_)
    rotate_left
    · exact absurd (z_len5 hL5) c137
    refine lv_iconst (v := 1) hx hb dL_law_1366 (by decide) ?_
    refine va_forget (fun q hq => hS.2.2 q hq) ?_
    refine W.widen (k := 600000) (n := 7302250) (Nat.le_of_ble_eq_true rfl) (Nat.le_of_ble_eq_true rfl) ?_
    exact lw_ret hx hb hr hlocks dL_law_1367
  · obtain rfl : L = 5 := by omega
    have hXs := hX
    have fin : ∀ (H : Heap) (locs : List Loc) (ls : Array Slot), va_S (zLA s) s.heap H locs → lv_has ls 4 [(0, .ref b), (3, .int 0)] → W p l e room_1 s m #[Value.ref b] below meth c H locs 200 20000 (lw_Z below #[Value.ref b] s) (F0 m 1360 ls []) := by
      intro H locs ls hS hl
      refine lv_iinc (v := 5) (lv' := [(3, .int 5), (0, .ref b)]) hx hb dL_law_1360 hl (k := 1) rfl (by decide) (by decide) rfl (fun ls hl => ?_)
      refine lv_goto (tgt := 18) hx hb dL_law_1363 (by decide) ?_
      refine lv_iload_n hx hb dL_law_18 rfl (lv_at hl 0 rfl) ?_
      refine lv_aload_n hx hb dL_law_19 rfl (lv_at hl 1 rfl) ?_
      refine va_slen hx hb hXs hbl hbA hS dL_law_20 ?_
      refine lv_topi (fun y138 e139 => ?_)
      obtain rfl : y138 = 5 := e139.trans (by decide)
      refine lv_iconst (v := 5) hx hb dL_law_21 (by decide) ?_
      refine lv_isub hx hb dL_law_22 ?_
      refine lv_topi (fun y140 e141 => ?_)
      obtain rfl : y140 = 0 := e141.trans (by decide)
      refine lv_icmp_gt (tgt := 1366) hx hb dL_law_23 (by decide) (fun c142 => ?_) (fun c142 => ?_)
      rotate_left
      · exact absurd c142 (by decide)
      refine lv_iconst (v := 1) hx hb dL_law_1366 (by decide) ?_
      refine va_forget (fun q hq => hS.2.2 q hq) ?_
      refine W.widen (k := 600000) (n := 7302250) (Nat.le_of_ble_eq_true rfl) (Nat.le_of_ble_eq_true rfl) ?_
      exact lw_ret hx hb hr hlocks dL_law_1367
    refine lv_iload_n hx hb dL_law_18 rfl (lv_at hl 0 rfl) ?_
    refine lv_aload_n hx hb dL_law_19 rfl (lv_at hl 3 rfl) ?_
    refine va_slen hx hb hXs hbl hbA hS dL_law_20 ?_
    refine lv_topi (fun y143 e144 => ?_)
    obtain rfl : y143 = 5 := e144.trans (by decide)
    refine lv_iconst (v := 5) hx hb dL_law_21 (by decide) ?_
    refine lv_isub hx hb dL_law_22 ?_
    refine lv_topi (fun y145 e146 => ?_)
    obtain rfl : y145 = 0 := e146.trans (by decide)
    refine lv_icmp_gt (tgt := 1366) hx hb dL_law_23 (by decide) (fun c147 => ?_) (fun c147 => ?_)
    · exact absurd c147 (by decide)
    refine lv_aload_n hx hb dL_law_26 rfl (lv_at hl 3 rfl) ?_
    refine lv_iload_n hx hb dL_law_27 rfl (lv_at hl 0 rfl) ?_
    refine z_sld 0 hx hb hXs hbl hbA hS (by decide) (Nat.le_of_ble_eq_true rfl) (Nat.le_of_ble_eq_true rfl) dL_law_28 ?_
    refine lv_bipush (v := 63) hx hb dL_law_29 (by decide) ?_
    refine lv_iand hx hb dL_law_31 ?_
    by_cases c_0 : ((xs 0) &&& 63) = 0
    · refine lv_tableIn (off := 152) (tgt := 184) hx hb dL_law_32 (by rw [c_0]; decide) (by rw [c_0]; decide) (by rw [c_0]; decide) (by decide) ?_
      exact law_case_0 C hXs hbl hbA fin hXX u40 hn_wev hn_wnb hn_wki hn_wmy hn_wce hn_wiw hn_wli hn_wha hn_wwt hn_wfy hn_wfk hn_wem hn_wna hn_wpl hn_whs hn_wk1 hn_wk2 hn_wk3 hXF hMF hz hS (lv_sub hl [3, 2, 1, 0] rfl)
    by_cases c_1 : ((xs 0) &&& 63) = 1
    · refine lv_tableIn (off := 175) (tgt := 207) hx hb dL_law_32 (by rw [c_1]; decide) (by rw [c_1]; decide) (by rw [c_1]; decide) (by decide) ?_
      exact law_case_1 C hXs hbl hbA fin hXX u40 hn_wev hn_wnb hn_wki hn_wmy hn_wce hn_wiw hn_wli hn_wha hn_wwt hn_wfy hn_wfk hn_wem hn_wna hn_wpl hn_whs hn_wk1 hn_wk2 hn_wk3 hXF hMF hz hS (lv_sub hl [3, 2, 1, 0] rfl)
    by_cases c_2 : ((xs 0) &&& 63) = 2
    · refine lv_tableIn (off := 198) (tgt := 230) hx hb dL_law_32 (by rw [c_2]; decide) (by rw [c_2]; decide) (by rw [c_2]; decide) (by decide) ?_
      exact law_case_2 C hXs hbl hbA fin hXX u40 hn_wev hn_wnb hn_wki hn_wmy hn_wce hn_wiw hn_wli hn_wha hn_wwt hn_wfy hn_wfk hn_wem hn_wna hn_wpl hn_whs hn_wk1 hn_wk2 hn_wk3 hXF hMF hz hS (lv_sub hl [3, 2, 1, 0] rfl)
    by_cases c_3 : ((xs 0) &&& 63) = 3
    · refine lv_tableIn (off := 211) (tgt := 243) hx hb dL_law_32 (by rw [c_3]; decide) (by rw [c_3]; decide) (by rw [c_3]; decide) (by decide) ?_
      exact law_case_3 C hXs hbl hbA fin hXX u40 hn_wev hn_wnb hn_wki hn_wmy hn_wce hn_wiw hn_wli hn_wha hn_wwt hn_wfy hn_wfk hn_wem hn_wna hn_wpl hn_whs hn_wk1 hn_wk2 hn_wk3 hXF hMF hz hS (lv_sub hl [3, 2, 1, 0] rfl)
    by_cases c_4 : ((xs 0) &&& 63) = 4
    · refine lv_tableIn (off := 304) (tgt := 336) hx hb dL_law_32 (by rw [c_4]; decide) (by rw [c_4]; decide) (by rw [c_4]; decide) (by decide) ?_
      exact law_case_4 C hXs hbl hbA fin hXX u40 hn_wev hn_wnb hn_wki hn_wmy hn_wce hn_wiw hn_wli hn_wha hn_wwt hn_wfy hn_wfk hn_wem hn_wna hn_wpl hn_whs hn_wk1 hn_wk2 hn_wk3 hXF hMF hz hS (lv_sub hl [3, 2, 1, 0] rfl)
    by_cases c_5 : ((xs 0) &&& 63) = 5
    · refine lv_tableIn (off := 337) (tgt := 369) hx hb dL_law_32 (by rw [c_5]; decide) (by rw [c_5]; decide) (by rw [c_5]; decide) (by decide) ?_
      exact law_case_5 C hXs hbl hbA fin hXX u40 hn_wev hn_wnb hn_wki hn_wmy hn_wce hn_wiw hn_wli hn_wha hn_wwt hn_wfy hn_wfk hn_wem hn_wna hn_wpl hn_whs hn_wk1 hn_wk2 hn_wk3 hXF hMF hz hS (lv_sub hl [3, 2, 1, 0] rfl)
    by_cases c_6 : ((xs 0) &&& 63) = 6
    · refine lv_tableIn (off := 380) (tgt := 412) hx hb dL_law_32 (by rw [c_6]; decide) (by rw [c_6]; decide) (by rw [c_6]; decide) (by decide) ?_
      exact law_case_6 C hXs hbl hbA fin hXX u40 hn_wev hn_wnb hn_wki hn_wmy hn_wce hn_wiw hn_wli hn_wha hn_wwt hn_wfy hn_wfk hn_wem hn_wna hn_wpl hn_whs hn_wk1 hn_wk2 hn_wk3 hXF hMF hz hS (lv_sub hl [3, 2, 1, 0] rfl)
    by_cases c_7 : ((xs 0) &&& 63) = 7
    · refine lv_tableIn (off := 473) (tgt := 505) hx hb dL_law_32 (by rw [c_7]; decide) (by rw [c_7]; decide) (by rw [c_7]; decide) (by decide) ?_
      exact law_case_7 C hXs hbl hbA fin hXX u40 hn_wev hn_wnb hn_wki hn_wmy hn_wce hn_wiw hn_wli hn_wha hn_wwt hn_wfy hn_wfk hn_wem hn_wna hn_wpl hn_whs hn_wk1 hn_wk2 hn_wk3 hXF hMF hz hS (lv_sub hl [3, 2, 1, 0] rfl)
    by_cases c_8 : ((xs 0) &&& 63) = 8
    · refine lv_tableIn (off := 506) (tgt := 538) hx hb dL_law_32 (by rw [c_8]; decide) (by rw [c_8]; decide) (by rw [c_8]; decide) (by decide) ?_
      exact law_case_8 C hXs hbl hbA fin hXX u40 hn_wev hn_wnb hn_wki hn_wmy hn_wce hn_wiw hn_wli hn_wha hn_wwt hn_wfy hn_wfk hn_wem hn_wna hn_wpl hn_whs hn_wk1 hn_wk2 hn_wk3 hXF hMF hz hS (lv_sub hl [3, 2, 1, 0] rfl)
    by_cases c_9 : ((xs 0) &&& 63) = 9
    · refine lv_tableIn (off := 539) (tgt := 571) hx hb dL_law_32 (by rw [c_9]; decide) (by rw [c_9]; decide) (by rw [c_9]; decide) (by decide) ?_
      exact law_case_9 C hXs hbl hbA fin hXX u40 hn_wev hn_wnb hn_wki hn_wmy hn_wce hn_wiw hn_wli hn_wha hn_wwt hn_wfy hn_wfk hn_wem hn_wna hn_wpl hn_whs hn_wk1 hn_wk2 hn_wk3 hXF hMF hz hS (lv_sub hl [3, 2, 1, 0] rfl)
    by_cases c_10 : ((xs 0) &&& 63) = 10
    · refine lv_tableIn (off := 588) (tgt := 620) hx hb dL_law_32 (by rw [c_10]; decide) (by rw [c_10]; decide) (by rw [c_10]; decide) (by decide) ?_
      exact law_case_10 C hXs hbl hbA fin hXX u40 hn_wev hn_wnb hn_wki hn_wmy hn_wce hn_wiw hn_wli hn_wha hn_wwt hn_wfy hn_wfk hn_wem hn_wna hn_wpl hn_whs hn_wk1 hn_wk2 hn_wk3 hXF hMF hz hS (lv_sub hl [3, 2, 1, 0] rfl)
    by_cases c_11 : ((xs 0) &&& 63) = 11
    · refine lv_tableIn (off := 631) (tgt := 663) hx hb dL_law_32 (by rw [c_11]; decide) (by rw [c_11]; decide) (by rw [c_11]; decide) (by decide) ?_
      exact law_case_11 C hXs hbl hbA fin hXX u40 hn_wev hn_wnb hn_wki hn_wmy hn_wce hn_wiw hn_wli hn_wha hn_wwt hn_wfy hn_wfk hn_wem hn_wna hn_wpl hn_whs hn_wk1 hn_wk2 hn_wk3 hXF hMF hz hS (lv_sub hl [3, 2, 1, 0] rfl)
    by_cases c_12 : ((xs 0) &&& 63) = 12
    · refine lv_tableIn (off := 664) (tgt := 696) hx hb dL_law_32 (by rw [c_12]; decide) (by rw [c_12]; decide) (by rw [c_12]; decide) (by decide) ?_
      exact law_case_12 C hXs hbl hbA fin hXX u40 hn_wev hn_wnb hn_wki hn_wmy hn_wce hn_wiw hn_wli hn_wha hn_wwt hn_wfy hn_wfk hn_wem hn_wna hn_wpl hn_whs hn_wk1 hn_wk2 hn_wk3 hXF hMF hz hS (lv_sub hl [3, 2, 1, 0] rfl)
    by_cases c_13 : ((xs 0) &&& 63) = 13
    · refine lv_tableIn (off := 687) (tgt := 719) hx hb dL_law_32 (by rw [c_13]; decide) (by rw [c_13]; decide) (by rw [c_13]; decide) (by decide) ?_
      exact law_case_13 C hXs hbl hbA fin hXX u40 hn_wev hn_wnb hn_wki hn_wmy hn_wce hn_wiw hn_wli hn_wha hn_wwt hn_wfy hn_wfk hn_wem hn_wna hn_wpl hn_whs hn_wk1 hn_wk2 hn_wk3 hXF hMF hz hS (lv_sub hl [3, 2, 1, 0] rfl)
    by_cases c_14 : ((xs 0) &&& 63) = 14
    · refine lv_tableIn (off := 710) (tgt := 742) hx hb dL_law_32 (by rw [c_14]; decide) (by rw [c_14]; decide) (by rw [c_14]; decide) (by decide) ?_
      exact law_case_14 C hXs hbl hbA fin hXX u40 hn_wev hn_wnb hn_wki hn_wmy hn_wce hn_wiw hn_wli hn_wha hn_wwt hn_wfy hn_wfk hn_wem hn_wna hn_wpl hn_whs hn_wk1 hn_wk2 hn_wk3 hXF hMF hz hS (lv_sub hl [3, 2, 1, 0] rfl)
    by_cases c_15 : ((xs 0) &&& 63) = 15
    · refine lv_tableIn (off := 744) (tgt := 776) hx hb dL_law_32 (by rw [c_15]; decide) (by rw [c_15]; decide) (by rw [c_15]; decide) (by decide) ?_
      exact law_case_15 C hXs hbl hbA fin hXX u40 hn_wev hn_wnb hn_wki hn_wmy hn_wce hn_wiw hn_wli hn_wha hn_wwt hn_wfy hn_wfk hn_wem hn_wna hn_wpl hn_whs hn_wk1 hn_wk2 hn_wk3 hXF hMF hz hS (lv_sub hl [3, 2, 1, 0] rfl)
    by_cases c_16 : ((xs 0) &&& 63) = 16
    · refine lv_tableIn (off := 794) (tgt := 826) hx hb dL_law_32 (by rw [c_16]; decide) (by rw [c_16]; decide) (by rw [c_16]; decide) (by decide) ?_
      exact law_case_16 C hXs hbl hbA fin hXX u40 hn_wev hn_wnb hn_wki hn_wmy hn_wce hn_wiw hn_wli hn_wha hn_wwt hn_wfy hn_wfk hn_wem hn_wna hn_wpl hn_whs hn_wk1 hn_wk2 hn_wk3 hXF hMF hz hS (lv_sub hl [3, 2, 1, 0] rfl)
    by_cases c_17 : ((xs 0) &&& 63) = 17
    · refine lv_tableIn (off := 827) (tgt := 859) hx hb dL_law_32 (by rw [c_17]; decide) (by rw [c_17]; decide) (by rw [c_17]; decide) (by decide) ?_
      exact law_case_17 C hXs hbl hbA fin hXX u40 hn_wev hn_wnb hn_wki hn_wmy hn_wce hn_wiw hn_wli hn_wha hn_wwt hn_wfy hn_wfk hn_wem hn_wna hn_wpl hn_whs hn_wk1 hn_wk2 hn_wk3 hXF hMF hz hS (lv_sub hl [3, 2, 1, 0] rfl)
    by_cases c_18 : ((xs 0) &&& 63) = 18
    · refine lv_tableIn (off := 850) (tgt := 882) hx hb dL_law_32 (by rw [c_18]; decide) (by rw [c_18]; decide) (by rw [c_18]; decide) (by decide) ?_
      exact law_case_18 C hXs hbl hbA fin hXX u40 hn_wev hn_wnb hn_wki hn_wmy hn_wce hn_wiw hn_wli hn_wha hn_wwt hn_wfy hn_wfk hn_wem hn_wna hn_wpl hn_whs hn_wk1 hn_wk2 hn_wk3 hXF hMF hz hS (lv_sub hl [3, 2, 1, 0] rfl)
    by_cases c_19 : ((xs 0) &&& 63) = 19
    · refine lv_tableIn (off := 883) (tgt := 915) hx hb dL_law_32 (by rw [c_19]; decide) (by rw [c_19]; decide) (by rw [c_19]; decide) (by decide) ?_
      exact law_case_19 C hXs hbl hbA fin hXX u40 hn_wev hn_wnb hn_wki hn_wmy hn_wce hn_wiw hn_wli hn_wha hn_wwt hn_wfy hn_wfk hn_wem hn_wna hn_wpl hn_whs hn_wk1 hn_wk2 hn_wk3 hXF hMF hz hS (lv_sub hl [3, 2, 1, 0] rfl)
    by_cases c_20 : ((xs 0) &&& 63) = 20
    · refine lv_tableIn (off := 906) (tgt := 938) hx hb dL_law_32 (by rw [c_20]; decide) (by rw [c_20]; decide) (by rw [c_20]; decide) (by decide) ?_
      exact law_case_20 C hXs hbl hbA fin hXX u40 hn_wev hn_wnb hn_wki hn_wmy hn_wce hn_wiw hn_wli hn_wha hn_wwt hn_wfy hn_wfk hn_wem hn_wna hn_wpl hn_whs hn_wk1 hn_wk2 hn_wk3 hXF hMF hz hS (lv_sub hl [3, 2, 1, 0] rfl)
    by_cases c_21 : ((xs 0) &&& 63) = 21
    · refine lv_tableIn (off := 929) (tgt := 961) hx hb dL_law_32 (by rw [c_21]; decide) (by rw [c_21]; decide) (by rw [c_21]; decide) (by decide) ?_
      exact law_case_21 C hXs hbl hbA fin hXX u40 hn_wev hn_wnb hn_wki hn_wmy hn_wce hn_wiw hn_wli hn_wha hn_wwt hn_wfy hn_wfk hn_wem hn_wna hn_wpl hn_whs hn_wk1 hn_wk2 hn_wk3 hXF hMF hz hS (lv_sub hl [3, 2, 1, 0] rfl)
    by_cases c_22 : ((xs 0) &&& 63) = 22
    · refine lv_tableIn (off := 982) (tgt := 1014) hx hb dL_law_32 (by rw [c_22]; decide) (by rw [c_22]; decide) (by rw [c_22]; decide) (by decide) ?_
      exact law_case_22 C hXs hbl hbA fin hXX u40 hn_wev hn_wnb hn_wki hn_wmy hn_wce hn_wiw hn_wli hn_wha hn_wwt hn_wfy hn_wfk hn_wem hn_wna hn_wpl hn_whs hn_wk1 hn_wk2 hn_wk3 hXF hMF hz hS (lv_sub hl [3, 2, 1, 0] rfl)
    by_cases c_23 : ((xs 0) &&& 63) = 23
    · refine lv_tableIn (off := 1015) (tgt := 1047) hx hb dL_law_32 (by rw [c_23]; decide) (by rw [c_23]; decide) (by rw [c_23]; decide) (by decide) ?_
      exact law_case_23 C hXs hbl hbA fin hXX u40 hn_wev hn_wnb hn_wki hn_wmy hn_wce hn_wiw hn_wli hn_wha hn_wwt hn_wfy hn_wfk hn_wem hn_wna hn_wpl hn_whs hn_wk1 hn_wk2 hn_wk3 hXF hMF hz hS (lv_sub hl [3, 2, 1, 0] rfl)
    by_cases c_24 : ((xs 0) &&& 63) = 24
    · refine lv_tableIn (off := 1048) (tgt := 1080) hx hb dL_law_32 (by rw [c_24]; decide) (by rw [c_24]; decide) (by rw [c_24]; decide) (by decide) ?_
      exact law_case_24 C hXs hbl hbA fin hXX u40 hn_wev hn_wnb hn_wki hn_wmy hn_wce hn_wiw hn_wli hn_wha hn_wwt hn_wfy hn_wfk hn_wem hn_wna hn_wpl hn_whs hn_wk1 hn_wk2 hn_wk3 hXF hMF hz hS (lv_sub hl [3, 2, 1, 0] rfl)
    by_cases c_25 : ((xs 0) &&& 63) = 25
    · refine lv_tableIn (off := 1081) (tgt := 1113) hx hb dL_law_32 (by rw [c_25]; decide) (by rw [c_25]; decide) (by rw [c_25]; decide) (by decide) ?_
      exact law_case_25 C hXs hbl hbA fin hXX u40 hn_wev hn_wnb hn_wki hn_wmy hn_wce hn_wiw hn_wli hn_wha hn_wwt hn_wfy hn_wfk hn_wem hn_wna hn_wpl hn_whs hn_wk1 hn_wk2 hn_wk3 hXF hMF hz hS (lv_sub hl [3, 2, 1, 0] rfl)
    by_cases c_26 : ((xs 0) &&& 63) = 26
    · refine lv_tableIn (off := 1114) (tgt := 1146) hx hb dL_law_32 (by rw [c_26]; decide) (by rw [c_26]; decide) (by rw [c_26]; decide) (by decide) ?_
      exact law_case_26 C hXs hbl hbA fin hXX u40 hn_wev hn_wnb hn_wki hn_wmy hn_wce hn_wiw hn_wli hn_wha hn_wwt hn_wfy hn_wfk hn_wem hn_wna hn_wpl hn_whs hn_wk1 hn_wk2 hn_wk3 hXF hMF hz hS (lv_sub hl [3, 2, 1, 0] rfl)
    by_cases c_27 : ((xs 0) &&& 63) = 27
    · refine lv_tableIn (off := 1137) (tgt := 1169) hx hb dL_law_32 (by rw [c_27]; decide) (by rw [c_27]; decide) (by rw [c_27]; decide) (by decide) ?_
      exact law_case_27 C hXs hbl hbA fin hXX u40 hn_wev hn_wnb hn_wki hn_wmy hn_wce hn_wiw hn_wli hn_wha hn_wwt hn_wfy hn_wfk hn_wem hn_wna hn_wpl hn_whs hn_wk1 hn_wk2 hn_wk3 hXF hMF hz hS (lv_sub hl [3, 2, 1, 0] rfl)
    by_cases c_28 : ((xs 0) &&& 63) = 28
    · refine lv_tableIn (off := 1160) (tgt := 1192) hx hb dL_law_32 (by rw [c_28]; decide) (by rw [c_28]; decide) (by rw [c_28]; decide) (by decide) ?_
      exact law_case_28 C hXs hbl hbA fin hXX u40 hn_wev hn_wnb hn_wki hn_wmy hn_wce hn_wiw hn_wli hn_wha hn_wwt hn_wfy hn_wfk hn_wem hn_wna hn_wpl hn_whs hn_wk1 hn_wk2 hn_wk3 hXF hMF hz hS (lv_sub hl [3, 2, 1, 0] rfl)
    by_cases c_29 : ((xs 0) &&& 63) = 29
    · refine lv_tableIn (off := 1183) (tgt := 1215) hx hb dL_law_32 (by rw [c_29]; decide) (by rw [c_29]; decide) (by rw [c_29]; decide) (by decide) ?_
      exact law_case_29 C hXs hbl hbA fin hXX u40 hn_wev hn_wnb hn_wki hn_wmy hn_wce hn_wiw hn_wli hn_wha hn_wwt hn_wfy hn_wfk hn_wem hn_wna hn_wpl hn_whs hn_wk1 hn_wk2 hn_wk3 hXF hMF hz hS (lv_sub hl [3, 2, 1, 0] rfl)
    by_cases c_30 : ((xs 0) &&& 63) = 30
    · refine lv_tableIn (off := 1216) (tgt := 1248) hx hb dL_law_32 (by rw [c_30]; decide) (by rw [c_30]; decide) (by rw [c_30]; decide) (by decide) ?_
      exact law_case_30 C hXs hbl hbA fin hXX u40 hn_wev hn_wnb hn_wki hn_wmy hn_wce hn_wiw hn_wli hn_wha hn_wwt hn_wfy hn_wfk hn_wem hn_wna hn_wpl hn_whs hn_wk1 hn_wk2 hn_wk3 hXF hMF hz hS (lv_sub hl [3, 2, 1, 0] rfl)
    by_cases c_31 : ((xs 0) &&& 63) = 31
    · refine lv_tableIn (off := 1249) (tgt := 1281) hx hb dL_law_32 (by rw [c_31]; decide) (by rw [c_31]; decide) (by rw [c_31]; decide) (by decide) ?_
      exact law_case_31 C hXs hbl hbA fin hXX u40 hn_wev hn_wnb hn_wki hn_wmy hn_wce hn_wiw hn_wli hn_wha hn_wwt hn_wfy hn_wfk hn_wem hn_wna hn_wpl hn_whs hn_wk1 hn_wk2 hn_wk3 hXF hMF hz hS (lv_sub hl [3, 2, 1, 0] rfl)
    by_cases c_32 : ((xs 0) &&& 63) = 32
    · refine lv_tableIn (off := 1282) (tgt := 1314) hx hb dL_law_32 (by rw [c_32]; decide) (by rw [c_32]; decide) (by rw [c_32]; decide) (by decide) ?_
      exact law_case_32 C hXs hbl hbA fin hXX u40 hn_wev hn_wnb hn_wki hn_wmy hn_wce hn_wiw hn_wli hn_wha hn_wwt hn_wfy hn_wfk hn_wem hn_wna hn_wpl hn_whs hn_wk1 hn_wk2 hn_wk3 hXF hMF hz hS (lv_sub hl [3, 2, 1, 0] rfl)
    by_cases c_33 : ((xs 0) &&& 63) = 33
    · refine lv_tableIn (off := 1305) (tgt := 1337) hx hb dL_law_32 (by rw [c_33]; decide) (by rw [c_33]; decide) (by rw [c_33]; decide) (by decide) ?_
      exact law_case_33 C hXs hbl hbA fin hXX u40 hn_wev hn_wnb hn_wki hn_wmy hn_wce hn_wiw hn_wli hn_wha hn_wwt hn_wfy hn_wfk hn_wem hn_wna hn_wpl hn_whs hn_wk1 hn_wk2 hn_wk3 hXF hMF hz hS (lv_sub hl [3, 2, 1, 0] rfl)
    refine lv_tableOut (tgt := 1360) hx hb dL_law_32 (by have t0 := lv_neT c_0 (a := 0) (by decide); have t1 := lv_neT c_1 (a := 1) (by decide); have t2 := lv_neT c_2 (a := 2) (by decide); have t3 := lv_neT c_3 (a := 3) (by decide); have t4 := lv_neT c_4 (a := 4) (by decide); have t5 := lv_neT c_5 (a := 5) (by decide); have t6 := lv_neT c_6 (a := 6) (by decide); have t7 := lv_neT c_7 (a := 7) (by decide); have t8 := lv_neT c_8 (a := 8) (by decide); have t9 := lv_neT c_9 (a := 9) (by decide); have t10 := lv_neT c_10 (a := 10) (by decide); have t11 := lv_neT c_11 (a := 11) (by decide); have t12 := lv_neT c_12 (a := 12) (by decide); have t13 := lv_neT c_13 (a := 13) (by decide); have t14 := lv_neT c_14 (a := 14) (by decide); have t15 := lv_neT c_15 (a := 15) (by decide); have t16 := lv_neT c_16 (a := 16) (by decide); have t17 := lv_neT c_17 (a := 17) (by decide); have t18 := lv_neT c_18 (a := 18) (by decide); have t19 := lv_neT c_19 (a := 19) (by decide); have t20 := lv_neT c_20 (a := 20) (by decide); have t21 := lv_neT c_21 (a := 21) (by decide); have t22 := lv_neT c_22 (a := 22) (by decide); have t23 := lv_neT c_23 (a := 23) (by decide); have t24 := lv_neT c_24 (a := 24) (by decide); have t25 := lv_neT c_25 (a := 25) (by decide); have t26 := lv_neT c_26 (a := 26) (by decide); have t27 := lv_neT c_27 (a := 27) (by decide); have t28 := lv_neT c_28 (a := 28) (by decide); have t29 := lv_neT c_29 (a := 29) (by decide); have t30 := lv_neT c_30 (a := 30) (by decide); have t31 := lv_neT c_31 (a := 31) (by decide); have t32 := lv_neT c_32 (a := 32) (by decide); have t33 := lv_neT c_33 (a := 33) (by decide);  omega) (by decide) ?_
    refine W.widen (k := 200) (n := 20000) (Nat.le_of_ble_eq_true rfl) (Nat.le_of_ble_eq_true rfl) ?_
    exact fin _ _ _ hS (lv_sub hl [3, 0] rfl)
set_option maxHeartbeats 4000000 in
theorem lw_walk (l : Launch) (hflags : l.flags = flags0) (b : Addr) (xs : List Int32) : MetFree l x (headSpec (Jvm.Cond.code x code maxLocals ret :: tables_1) room_1) (lw_P b xs) (fun _ _ _ _ _ => True) lw_Q := by
  refine MetFree.of_bodyS (code := code) (maxLocals := maxLocals) (ret := ret) (by decide) ?_ ?_
  · intro args s m h hn
    obtain ⟨meth, c, h1, h2, h3, h4, h5, h6, -, -⟩ := Cond.code_spec hn (atoms_spec (ws := Jvm.Cond.code x code maxLocals ret :: tables_1) h _ List.mem_cons_self)
    exact ⟨meth, c, h1, h2, h3, h4, h5, h6⟩
  · intro p e s m args below meth c s₁ B hml0 hP _
    obtain ⟨rfl, hx, hbd, hgv⟩ := hP
    obtain ⟨scr, harrAt, hlist, hof, hsmall⟩ := hx
    obtain ⟨hcb, hkn, -, -⟩ := State.arrayAt?_spec harrAt
    have hown : s.vm.findClass R_law = some m.cls := findClass_of_methodNamed B.named
    have hts0 : ∀ c ∈ (Jvm.Cond.code x code maxLocals ret :: tables_1), c.before #[Value.ref b] s = true := atoms_spec (ws := Jvm.Cond.code x code maxLocals ret :: tables_1) B.pre
    have hts : ∀ w ∈ lw_tbl, w.before #[Value.ref b] s = true := k2_hts_sels lw_privs (fun w hw => hts0 w (List.mem_cons_of_mem _ hw)) lw_privs_ok
    have hml : c.maxLocals = 4 := B.maxLocals_eq (hts0 _ List.mem_cons_self)
    have X₀ : Stand p l e room_1 s m #[Value.ref b] below meth c s₁ [] 0 0 := Stand.of_body B
    have hh0 : s₁.heap = s.heap := by rw [B.state]; rfl
    have hsz : scr.slots.size = xs.length := by rw [← Array.length_toList, hlist, List.length_map]
    have hval : ∀ j : Nat, j < xs.length → scr.slots[j]? = some (.int (xs.getD j 0)) := fun j hj => by
      rw [← Array.getElem?_toList, hlist]
      simp [hj]
    have hbl : b < s.heap.size := (Array.getElem?_eq_some_iff.mp hcb).1
    have hX : va_X b xs.length (fun j => xs.getD j 0) s s.heap := ⟨scr, hcb, hof, hkn, hsz, hval⟩
    have K : W p l e room_1 s m #[Value.ref b] below meth c s₁.heap [] 0 0 (lw_Z below #[Value.ref b] s) (entryFrame m ([Value.ref b] : List Value).toArray 4) := by
      rw [hh0]
      exact whole_start l hflags hbd ⟨B.exec, B.bytes, B.returns, hml, hown, hts, hX, hbl, B.notSynchronized, hgv⟩
    obtain ⟨t, a1, o, b1, b2, b3⟩ := K s₁ rfl X₀
    exact ⟨t, o, a1, b1, b2, b3⟩
theorem lw_pre_spec {args : Array Value} {s : State} (h : (Jvm.Cond.and given_1 narrow_1).before args s = true) (hr : rest_1_c.before args s = true) : ∃ (b : Addr) (xs : List Int32), lw_P b xs args s := by
  have hs := flat_of_before _ h
  have hq := flat_of_before _ hr
  have hc : (Cond.count 1).before args s = true := hs _ (by decide +kernel)
  have harr : (Cond.arrayOf (.arg 0) .int).before args s = true := hs _ (by decide +kernel)
  have hle : (Cond.le (.length (.arg 0)) (.int 5)).before args s = true := hs _ (by decide +kernel)
  have hlen : (Cond.isInt (.length (.arg 0))).before args s = true := hq _ (by decide +kernel)
  have hall : (Cond.all (.arg 0) (.isInt (.elem (.arg 0) (.index 0)))).before args s = true := hq _ (by decide +kernel)
  obtain ⟨b, xs, hb, hx⟩ := State.ints_of_pre rfl harr hlen hall
  have hsm : xs.length < 2 ^ 31 := hx.choose_spec.2.2.2
  have hev : (Term.length (.arg 0)).eval args s none [] s = some (.int xs.length.toInt32) := hx.length_eval hb
  have hv := Cond.le_ints hev (show (Term.int 5).eval args s none [] s = some (.int 5) from rfl)
  have hd : xs.length.toInt32 ≤ 5 := by
    simpa [Cond.before, Cond.holds, hv] using hle
  have hN : xs.length ≤ 5 := (Int32.ofNat_le_ofNat hsm (by decide)).mp (show Int32.ofNat xs.length ≤ Int32.ofNat 5 from hd)
  exact ⟨b, xs, Cond.one_arg hc (show args[0]? = some (.ref b) from hb), hx, hN, h⟩
theorem lw_comes (l : Launch) (hflags : l.flags = flags0) : Comes l x (Jvm.Cond.code x code maxLocals ret :: tables_1) room_1 (fun tb e args s => Calls_1 tb e args s ∧ rest_1 tb e args s ∧ Pre_1 tb e args s)
    (fun _ _ args s o t => lw_Q args s o t) := by
  intro p e ha hc hk s m args below hf hfit hheap happ hpre
  obtain ⟨b, xs, hP⟩ := lw_pre_spec hpre.2.2 hpre.2.1
  obtain ⟨k, o, h1, h2, h3, hQ⟩ := lw_walk l hflags b xs p e ha hc hk s m args below hf ((Spec.applies_iff_loose hf).mp happ).1 hP trivial
  exact ⟨k, o, h1, h2, h3, hQ⟩
theorem lw_frame {s t : State} {o : Outcome} {args : Array Value} (h : Framed s o t [] 600000 7302250) :
    Framed s o t (fieldLocs frame_1_writes args s ++ arrayLocs frame_1_arrays args s ++ staticLocs frame_1_statics s) 600000 7302250 := h
theorem lw_limb (L : Cond) (hL : ∀ (args : Array Value) (s t : State), L.after args s (.returned (some (.int 1))) t = true) :
    ArmFor flags0 classFile x code maxLocals ret World_1 tables_1 room_1 Calls_1 rest_1 Pre_1
      (fun tb e a s o t => postC L tb e a s o t ∧ Framed s o t (fieldLocs frame_1_writes a s ++ arrayLocs frame_1_arrays a s ++ staticLocs frame_1_statics s) 600000 7302250) := by
  intro l hflags _ _ p e ha hc hk s m args below hf hfit hheap happ hpre
  obtain ⟨k, o, h1, h2, h3, rfl, hF⟩ := lw_comes l hflags p e ha hc hk s m args below hf hfit hheap happ hpre
  exact ⟨k, _, h1, h2, h3, hL args s _, lw_frame hF⟩
theorem i_vc : Claimed_1_1 ∧ Claimed_1_2 := ⟨lw_limb limb_1_1 (fun args s t => by simp [limb_1_1, Cond.after, Cond.holds, Cond.value]), lw_limb limb_1_2 (fun args s t => Cond.after_iff.mpr (by
  first | (rw [show limb_1_2 = Cond.eq .result (.int 1) from rfl, Cond.eq_ints (x := 1) (y := 1) rfl rfl]; simp; done) | (simp [limb_1_2, Cond.value, Term.eval]; done)))⟩
