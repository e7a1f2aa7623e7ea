set_option maxHeartbeats 4000000 in
set_option maxRecDepth 100000 in
theorem whole_start {p : Program} {e : Env} {s : State} {m : MethodId} {below : List Frame} {meth : Method} {c : Code} (l : Launch) (hflags : l.flags = flags0) {b L : Nat} {xs : Nat → Int32} (hL : L ≤ 2560) (C0 : lw_At p s m meth c b L xs) : W p l e room_1 s m #[Value.ref b] below meth c s.heap [] 0 0 (lw_Z below #[Value.ref b] s) (entryFrame m ([Value.ref b] : List Value).toArray 4) := by
  obtain ⟨hx, hb, hr, hml, hown, hts, hX, hbl, hlocks, hgv⟩ := C0
  have hts9 : ∀ w ∈ zTbl, w.before #[Value.ref b] s = true := fun w h => hts w (List.mem_filter.mp h).1
  obtain ⟨D, cy, hK⟩ := z_world hts9
  have C : zC D cy p s m #[Value.ref b] meth c RL cL_law 4 := ⟨hx, hb, hml, hown, hts9, hK, zW_of hts9, hlocks⟩
  have hbA : ¬ zLA s b := Nat.not_le.mpr hbl
  have hA : ∀ q, s.heap.size ≤ q → zLA s q := fun q h => h
  have hS : va_S (zLA s) s.heap s.heap [] := va_S.rf
  have hz : zH D (zLA s) (fun _ => none) s.heap := fun a e h => (by cases h)
  have hl := lv_entry ([.ref b]) (n := 4) (Nat.le_of_ble_eq_true rfl)
  rw [lg_entry_eq]
  generalize (lg_sl ([.ref b]) ++ List.replicate (4 - (lg_sl ([.ref b])).length) Slot.unset).toArray = ls at hl ⊢
  have hl : lv_has ls 4 [(0, .ref b)] := hl
  have hb : c.code = cL_law := hb
  have hXs := hX
  obtain ⟨f, hf⟩ : ∃ g : zM, g = fun _ => none := ⟨_, rfl⟩
  rw [← hf] at hz
  refine z_new (fs := [.null, .null, .null, .int 0, .null, .int 0, .null, .int 0, .null, .null, .long 0]) C hz hS hA zl7 mLL_7 mIa_RX7 mIn_RX7 (by decide +kernel) (Nat.le_of_ble_eq_true rfl) (Nat.le_of_ble_eq_true rfl) dL_law_0 (fun q1 H f3 ur2 a4 k5 hz hS => ?_)
  refine lv_dup hx hb dL_law_3 rfl ?_
  refine z_callIv (ret := none) (As := []) C hz hS hA hl (k_X7_init l D cy f3 q1 a4) zyX7_init mML_9 rfl rfl (Nat.le_of_ble_eq_true rfl) ⟨(Nat.le_of_ble_eq_true rfl), (Nat.le_of_ble_eq_true rfl)⟩ ⟨(Nat.le_of_ble_eq_true rfl), (Nat.le_of_ble_eq_true rfl)⟩ dL_law_4 (fun fX H locs hp hz hS => ?_)
  refine hp.elim fun fa h90 => h90.elim fun fi h91 => h91.elim fun nu h92 => h92.elim fun fm h93 => h93.elim fun co h94 => h94.elim fun en h95 => h95.elim fun ke h96 => h96.elim fun ev h97 => h97.elim fun al h98 => h98.elim fun ra h99 => h99.elim fun kn h910 => h910.elim fun vq h911 => h911.elim fun ge h912 => h912.elim fun ea h913 => h913.elim fun ma h914 => h914.elim fun u1 h915 => h915.elim fun u2 h916 => h916.elim fun u3 h917 => h917.elim fun gv h918 => h918.elim fun nl h919 => h919.elim fun gu h920 => h920.elim fun nn h921 => h921.elim fun ga h922 => h922.elim fun gr h923 => h923.elim fun fg h924 => h924.elim fun pt h925 => h925.elim fun kd h926 => h926.elim fun ln h927 => h927.elim fun pp h928 => h928.elim fun wg h929 => h929.elim fun wd h930 => h930.elim fun hs h931 => h931.elim fun bf h932 => h932.elim fun nf h933 => h933.elim fun gf h934 => h934.elim fun fq h935 => h935.elim fun fk h936 => h936.elim fun fz h937 => h937.elim fun fc h938 => h938.elim fun nc h939 => h939.elim fun gc h940 => h940.elim fun cn h941 => h941.elim fun ce h942 => h942.elim fun cm h943 => h943.elim fun sq h944 => h944.elim fun mb h945 => h945.elim fun ks h946 => h946.elim fun kk h947 => h947.elim fun kv h948 => h948.elim fun lk h949 => ?_
  clear hp h90 h91 h92 h93 h94 h95 h96 h97 h98 h99 h910 h911 h912 h913 h914 h915 h916 h917 h918 h919 h920 h921 h922 h923 h924 h925 h926 h927 h928 h929 h930 h931 h932 h933 h934 h935 h936 h937 h938 h939 h940 h941 h942 h943 h944 h945 h946 h947 h948
  obtain ⟨x9u1, x9u2, x9u3, x9gv, x9nl, x9gu, x9nn, x9kd, x9ln, x9wd, x9hs, x9nf, x9fz, x9nc, x9ce, x9cm, x9sq, x9ks, x9kv, x9lk, hIX, -⟩ := h949
  refine lv_astore_n (lv' := [(1, .ref q1), (0, .ref b)]) hx hb dL_law_7 rfl hl (by decide) rfl (fun ls hl => ?_)
  refine z_new (fs := [.int 0, .int 0, .int 0, .null, .int 0, .null, .int 0, .null, .null, .null, .null, .null, .null, .null, .int 0, .null, .null, .int 0, .null, .null, .null, .null, .long 0, .int 0, .null, .null, .null]) C hz hS hA zl8 mLL_10 mIa_RX8 mIn_RX8 (by decide +kernel) (Nat.le_of_ble_eq_true rfl) (Nat.le_of_ble_eq_true rfl) dL_law_8 (fun q6 H f8 ur7 a9 k10 hz hS => ?_)
  have hzx : zH D (zLA s) fX H := fun a9 e9 h9 => hz a9 e9 ((k10 a9 (z_nn ur7 h9)).trans h9)
  obtain ⟨fM, hfm⟩ : ∃ g : zM, g = fun a9 => if a9 = q6 then f8 a9 else none := ⟨_, rfl⟩
  have hmq : fM q6 = some (.inr (8, [.int 0, .int 0, .int 0, .null, .int 0, .null, .int 0, .null, .null, .null, .null, .null, .null, .null, .int 0, .null, .null, .int 0, .null, .null, .null, .null, .long 0, .int 0, .null, .null, .null])) := by rw [hfm]; show (if q6 = q6 then _ else none) = _; rw [if_pos rfl]; exact a9
  have hzm : zH D (zLA s) fM H := fun a9 e9 h9 => by
    rw [hfm] at h9
    dsimp only at h9
    split at h9
    · exact hz a9 e9 h9
    · cases h9
  have hd : ∀ a9 e9, fX a9 = some e9 → fM a9 = none := fun a9 e9 h9 => by
    rw [hfm]
    exact if_neg (z_nn ur7 h9)
  refine lv_dup hx hb dL_law_11 rfl ?_
  refine z_callIv2 (ret := none) (As := []) C hzm hS hA hl (k_X8_init l D cy fM q6 hmq) zyX8_init mML_12 rfl rfl (Nat.le_of_ble_eq_true rfl) ⟨(Nat.le_of_ble_eq_true rfl), (Nat.le_of_ble_eq_true rfl)⟩ ⟨(Nat.le_of_ble_eq_true rfl), (Nat.le_of_ble_eq_true rfl)⟩ dL_law_12 (fun fM2 H locs hp hzm hS hfr => ?_)
  refine hp.elim fun m_wev h90 => h90.elim fun m_wnb h91 => h91.elim fun m_wki h92 => h92.elim fun m_wmy h93 => h93.elim fun m_wce h94 => h94.elim fun m_wiw h95 => h95.elim fun m_wli h96 => h96.elim fun m_wha h97 => h97.elim fun m_wwt h98 => h98.elim fun m_wfy h99 => h99.elim fun m_wfk h910 => h910.elim fun m_wem h911 => h911.elim fun m_wna h912 => h912.elim fun m_wpl h913 => h913.elim fun m_whs h914 => h914.elim fun m_wk1 h915 => h915.elim fun m_wk2 h916 => h916.elim fun m_wk3 h917 => h917.elim fun m_u1 h918 => h918.elim fun m_u2 h919 => h919.elim fun m_u3 h920 => h920.elim fun m_nl h921 => h921.elim fun m_nn h922 => h922.elim fun m_nf h923 => h923.elim fun m_nc h924 => h924.elim fun m_lk h925 => h925.elim fun m_ks h926 => h926.elim fun m_gv h927 => h927.elim fun m_gu h928 => h928.elim fun m_gk h929 => h929.elim fun m_gm h930 => h930.elim fun m_gc h931 => h931.elim fun m_gw h932 => h932.elim fun m_gl h933 => h933.elim fun m_gh h934 => h934.elim fun m_gt h935 => h935.elim fun m_gy h936 => h936.elim fun m_gq h937 => h937.elim fun m_ge1 h938 => h938.elim fun m_gn1 h939 => h939.elim fun m_gp1 h940 => h940.elim fun m_gs h941 => h941.elim fun m_gx1 h942 => h942.elim fun m_gx2 h943 => h943.elim fun m_gx3 h944 => h944.elim fun m_ln h945 => h945.elim fun m_fz h946 => h946.elim fun m_sq h947 => ?_
  clear hp h90 h91 h92 h93 h94 h95 h96 h97 h98 h99 h910 h911 h912 h913 h914 h915 h916 h917 h918 h919 h920 h921 h922 h923 h924 h925 h926 h927 h928 h929 h930 h931 h932 h933 h934 h935 h936 h937 h938 h939 h940 h941 h942 h943 h944 h945 h946
  obtain ⟨m9u1, m9u2, m9u3, m9gv, m9nl, m9gu, m9nn, m9gk, m9ln, m9gw, m9gh, m9nf, m9fz, m9nc, m9ge1, m9gn1, m9sq, m9ks, m9gx3, m9lk, hIM, -⟩ := h947
  obtain ⟨hzx, hd⟩ := hfr fX hzx hd
  refine lv_astore_n (lv' := [(2, .ref q6), (1, .ref q1), (0, .ref b)]) hx hb dL_law_15 rfl hl (by decide) rfl (fun ls hl => ?_)
  refine lv_iconst (v := 0) hx hb dL_law_16 (by decide) ?_
  refine lv_topi (fun y11 e12 => ?_)
  obtain rfl : y11 = nI (5 * 0) := e12.trans (by decide)
  refine lv_istore_n (lv' := [(3, .int (nI (5 * 0))), (2, .ref q6), (1, .ref q1), (0, .ref b)]) hx hb dL_law_17 rfl hl (by decide) rfl (fun ls hl => ?_)
  have hLI : zLI D cy s q1 q6 H := z_LI hIX hIM hzx hzm (z_dsym hd) ⟨(m9u1.trans x9u1.symm), (m9u2.trans x9u2.symm), (m9u3.trans x9u3.symm), (m9gv.trans x9gv.symm), (m9nl.trans x9nl.symm), (m9gu.trans x9gu.symm), (m9nn.trans x9nn.symm), (m9gk.trans x9kd.symm), (m9gw.trans x9wd.symm), (m9ln.trans x9ln.symm), (m9gh.trans x9hs.symm), (m9nf.trans x9nf.symm), (m9fz.trans x9fz.symm), (m9nc.trans x9nc.symm), (m9ge1.trans x9ce.symm), (m9gn1.trans x9cm.symm), (m9sq.trans x9sq.symm), (m9lk.trans x9lk.symm), (m9ks.trans x9ks.symm), (m9gx3.trans x9kv.symm), (by rw [x9nn]; exact fun i9 h9 => absurd h9 (Nat.not_lt_zero _)), (by rw [x9nf]; exact fun i9 h9 => absurd h9 (Nat.not_lt_zero _)), ⟨(by rw [(x9nc.trans m9nc.symm), (x9ce.trans m9ge1.symm), (x9sq.trans m9sq.symm)]; exact zIM_ME hIM), (by rw [x9sq]; exact fun e9 h9 k9 q9 => absurd q9 (Nat.not_lt_zero _)), (by rw [x9nc]; exact fun i9 h9 => absurd h9 (Nat.not_lt_zero _)), (by rw [x9nc]; exact fun i9 h9 => absurd h9 (Nat.not_lt_zero _))⟩, (by rw [x9ks]; exact fun i9 h9 => absurd h9 (Nat.not_lt_zero _))⟩
  refine W.widen (k := 100 + 10 * 0) (n := 3000 + 60 * 0) (Nat.le_of_ble_eq_true rfl) (Nat.le_of_ble_eq_true rfl) ?_
  have loop : ∀ (n j : Nat), 512 - j < n → j ≤ 512 → ∀ (H : Heap) (locs : List Loc) (ls : Array Slot), zLI D cy s q1 q6 H → va_S (zLA s) s.heap H locs → lv_has ls 4 [(0, .ref b), (1, .ref q1), (2, .ref q6), (3, .int (nI (5 * j)))] → W p l e room_1 s m #[Value.ref b] below meth c H locs (100 + 10 * j) (3000 + 60 * j) (lw_Z below #[Value.ref b] s) (F0 m 18 ls []) := by
    intro n
    induction n with
    | zero => intro j hn; exact absurd hn (Nat.not_lt_zero _)
    | succ n ih =>
      intro j hn hj H locs ls hLI hS hl
      refine lv_iload_n hx hb dL_law_18 rfl (lv_at hl 3 rfl) ?_
      refine lv_aload_n hx hb dL_law_19 rfl (lv_at hl 0 rfl) ?_
      refine va_slen hx hb hXs hbl hbA hS dL_law_20 ?_
      refine lv_iconst (v := 5) hx hb dL_law_21 (by decide) ?_
      refine lv_isub hx hb dL_law_22 ?_
      refine lv_icmp_gt (tgt := 1364) hx hb dL_law_23 (by decide) (fun _ => ?_) (fun cL => ?_)
      · refine lv_iconst (v := 1) hx hb dL_law_1364 (by decide) ?_
        refine va_forget (fun q hq => hS.2.2 q hq) ?_
        refine W.widen (k := 600000) (n := 7302249) (show 100 + 10 * j ≤ 600000 by omega) (show 3000 + 60 * j ≤ 7302249 by omega) ?_
        exact lw_ret hx hb hr hlocks dL_law_1365
      have hj5 : 5 * j + 5 ≤ L := z_lt1 (a := L) (b := 5) (by omega) (by omega) rfl (5 * j) (by omega) cL
      refine lv_aload_n hx hb dL_law_26 rfl (lv_at hl 0 rfl) ?_
      refine lv_iload_n hx hb dL_law_27 rfl (lv_at hl 3 rfl) ?_
      refine z_sld (5 * j) hx hb hXs hbl hbA hS rfl (by omega) (by omega) dL_law_28 ?_
      refine lv_bipush (v := 63) hx hb dL_law_29 (by decide) ?_
      refine lv_iand hx hb dL_law_31 ?_
      have fin : ∀ (H : Heap) (locs : List Loc) (ls : Array Slot), zLI D cy s q1 q6 H → va_S (zLA s) s.heap H locs → lv_has ls 4 [(0, .ref b), (1, .ref q1), (2, .ref q6), (3, .int (nI (5 * j)))] → W p l e room_1 s m #[Value.ref b] below meth c H locs (100 + 10 * (j + 1)) (3000 + 60 * (j + 1)) (lw_Z below #[Value.ref b] s) (F0 m 1358 ls []) := by
        intro H locs ls hLI hS hl
        refine lv_iinc (v := nI (5 * (j + 1))) (lv' := [(3, .int (nI (5 * (j + 1)))), (0, .ref b), (1, .ref q1), (2, .ref q6)]) hx hb dL_law_1358 hl (k := 3) rfl (nI_add (5 * j) 5) (by decide) rfl (fun ls hl => ?_)
        refine lv_goto (tgt := 18) hx hb dL_law_1361 (by decide) ?_
        exact ih (j + 1) (by omega) (by omega) _ _ _ hLI hS (lv_sub hl [1, 2, 3, 0] rfl)
      by_cases c_0 : ((xs (5 * j)) &&& 63) = 0
      · refine lv_tableIn (off := 152) (tgt := 184) hx hb dL_law_32 (by rw [c_0]; decide) (by rw [c_0]; decide) (by rw [c_0]; decide) (by decide) ?_
        exact law_case_0 C hXs hbl hbA hL hj5 fin hLI hS (lv_sub hl [0, 1, 2, 3] rfl)
      by_cases c_1 : ((xs (5 * j)) &&& 63) = 1
      · refine lv_tableIn (off := 175) (tgt := 207) hx hb dL_law_32 (by rw [c_1]; decide) (by rw [c_1]; decide) (by rw [c_1]; decide) (by decide) ?_
        exact law_case_1 C hXs hbl hbA hL hj5 fin hLI hS (lv_sub hl [0, 1, 2, 3] rfl)
      by_cases c_2 : ((xs (5 * j)) &&& 63) = 2
      · refine lv_tableIn (off := 198) (tgt := 230) hx hb dL_law_32 (by rw [c_2]; decide) (by rw [c_2]; decide) (by rw [c_2]; decide) (by decide) ?_
        exact law_case_2 C hXs hbl hbA hL hj5 fin hLI hS (lv_sub hl [0, 1, 2, 3] rfl)
      by_cases c_3 : ((xs (5 * j)) &&& 63) = 3
      · refine lv_tableIn (off := 211) (tgt := 243) hx hb dL_law_32 (by rw [c_3]; decide) (by rw [c_3]; decide) (by rw [c_3]; decide) (by decide) ?_
        exact law_case_3 C hXs hbl hbA hL hj5 fin hLI hS (lv_sub hl [0, 1, 2, 3] rfl)
      by_cases c_4 : ((xs (5 * j)) &&& 63) = 4
      · refine lv_tableIn (off := 304) (tgt := 336) hx hb dL_law_32 (by rw [c_4]; decide) (by rw [c_4]; decide) (by rw [c_4]; decide) (by decide) ?_
        exact law_case_4 C hXs hbl hbA hL hj5 fin hLI hS (lv_sub hl [0, 1, 2, 3] rfl)
      by_cases c_5 : ((xs (5 * j)) &&& 63) = 5
      · refine lv_tableIn (off := 337) (tgt := 369) hx hb dL_law_32 (by rw [c_5]; decide) (by rw [c_5]; decide) (by rw [c_5]; decide) (by decide) ?_
        exact law_case_5 C hXs hbl hbA hL hj5 fin hLI hS (lv_sub hl [0, 1, 2, 3] rfl)
      by_cases c_6 : ((xs (5 * j)) &&& 63) = 6
      · refine lv_tableIn (off := 380) (tgt := 412) hx hb dL_law_32 (by rw [c_6]; decide) (by rw [c_6]; decide) (by rw [c_6]; decide) (by decide) ?_
        exact law_case_6 C hXs hbl hbA hL hj5 fin hLI hS (lv_sub hl [0, 1, 2, 3] rfl)
      by_cases c_7 : ((xs (5 * j)) &&& 63) = 7
      · refine lv_tableIn (off := 473) (tgt := 505) hx hb dL_law_32 (by rw [c_7]; decide) (by rw [c_7]; decide) (by rw [c_7]; decide) (by decide) ?_
        exact law_case_7 C hXs hbl hbA hL hj5 fin hLI hS (lv_sub hl [0, 1, 2, 3] rfl)
      by_cases c_8 : ((xs (5 * j)) &&& 63) = 8
      · refine lv_tableIn (off := 506) (tgt := 538) hx hb dL_law_32 (by rw [c_8]; decide) (by rw [c_8]; decide) (by rw [c_8]; decide) (by decide) ?_
        exact law_case_8 C hXs hbl hbA hL hj5 fin hLI hS (lv_sub hl [0, 1, 2, 3] rfl)
      by_cases c_9 : ((xs (5 * j)) &&& 63) = 9
      · refine lv_tableIn (off := 539) (tgt := 571) hx hb dL_law_32 (by rw [c_9]; decide) (by rw [c_9]; decide) (by rw [c_9]; decide) (by decide) ?_
        exact law_case_9 C hXs hbl hbA hL hj5 fin hLI hS (lv_sub hl [0, 1, 2, 3] rfl)
      by_cases c_10 : ((xs (5 * j)) &&& 63) = 10
      · refine lv_tableIn (off := 588) (tgt := 620) hx hb dL_law_32 (by rw [c_10]; decide) (by rw [c_10]; decide) (by rw [c_10]; decide) (by decide) ?_
        exact law_case_10 C hXs hbl hbA hL hj5 fin hLI hS (lv_sub hl [0, 1, 2, 3] rfl)
      by_cases c_11 : ((xs (5 * j)) &&& 63) = 11
      · refine lv_tableIn (off := 631) (tgt := 663) hx hb dL_law_32 (by rw [c_11]; decide) (by rw [c_11]; decide) (by rw [c_11]; decide) (by decide) ?_
        exact law_case_11 C hXs hbl hbA hL hj5 fin hLI hS (lv_sub hl [0, 1, 2, 3] rfl)
      by_cases c_12 : ((xs (5 * j)) &&& 63) = 12
      · refine lv_tableIn (off := 664) (tgt := 696) hx hb dL_law_32 (by rw [c_12]; decide) (by rw [c_12]; decide) (by rw [c_12]; decide) (by decide) ?_
        exact law_case_12 C hXs hbl hbA hL hj5 fin hLI hS (lv_sub hl [0, 1, 2, 3] rfl)
      by_cases c_13 : ((xs (5 * j)) &&& 63) = 13
      · refine lv_tableIn (off := 687) (tgt := 719) hx hb dL_law_32 (by rw [c_13]; decide) (by rw [c_13]; decide) (by rw [c_13]; decide) (by decide) ?_
        exact law_case_13 C hXs hbl hbA hL hj5 fin hLI hS (lv_sub hl [0, 1, 2, 3] rfl)
      by_cases c_14 : ((xs (5 * j)) &&& 63) = 14
      · refine lv_tableIn (off := 710) (tgt := 742) hx hb dL_law_32 (by rw [c_14]; decide) (by rw [c_14]; decide) (by rw [c_14]; decide) (by decide) ?_
        exact law_case_14 C hXs hbl hbA hL hj5 fin hLI hS (lv_sub hl [0, 1, 2, 3] rfl)
      by_cases c_15 : ((xs (5 * j)) &&& 63) = 15
      · refine lv_tableIn (off := 743) (tgt := 775) hx hb dL_law_32 (by rw [c_15]; decide) (by rw [c_15]; decide) (by rw [c_15]; decide) (by decide) ?_
        exact law_case_15 C hXs hbl hbA hL hj5 fin hLI hS (lv_sub hl [0, 1, 2, 3] rfl)
      by_cases c_16 : ((xs (5 * j)) &&& 63) = 16
      · refine lv_tableIn (off := 792) (tgt := 824) hx hb dL_law_32 (by rw [c_16]; decide) (by rw [c_16]; decide) (by rw [c_16]; decide) (by decide) ?_
        exact law_case_16 C hXs hbl hbA hL hj5 fin hLI hS (lv_sub hl [0, 1, 2, 3] rfl)
      by_cases c_17 : ((xs (5 * j)) &&& 63) = 17
      · refine lv_tableIn (off := 825) (tgt := 857) hx hb dL_law_32 (by rw [c_17]; decide) (by rw [c_17]; decide) (by rw [c_17]; decide) (by decide) ?_
        exact law_case_17 C hXs hbl hbA hL hj5 fin hLI hS (lv_sub hl [0, 1, 2, 3] rfl)
      by_cases c_18 : ((xs (5 * j)) &&& 63) = 18
      · refine lv_tableIn (off := 848) (tgt := 880) hx hb dL_law_32 (by rw [c_18]; decide) (by rw [c_18]; decide) (by rw [c_18]; decide) (by decide) ?_
        exact law_case_18 C hXs hbl hbA hL hj5 fin hLI hS (lv_sub hl [0, 1, 2, 3] rfl)
      by_cases c_19 : ((xs (5 * j)) &&& 63) = 19
      · refine lv_tableIn (off := 881) (tgt := 913) hx hb dL_law_32 (by rw [c_19]; decide) (by rw [c_19]; decide) (by rw [c_19]; decide) (by decide) ?_
        exact law_case_19 C hXs hbl hbA hL hj5 fin hLI hS (lv_sub hl [0, 1, 2, 3] rfl)
      by_cases c_20 : ((xs (5 * j)) &&& 63) = 20
      · refine lv_tableIn (off := 904) (tgt := 936) hx hb dL_law_32 (by rw [c_20]; decide) (by rw [c_20]; decide) (by rw [c_20]; decide) (by decide) ?_
        exact law_case_20 C hXs hbl hbA hL hj5 fin hLI hS (lv_sub hl [0, 1, 2, 3] rfl)
      by_cases c_21 : ((xs (5 * j)) &&& 63) = 21
      · refine lv_tableIn (off := 927) (tgt := 959) hx hb dL_law_32 (by rw [c_21]; decide) (by rw [c_21]; decide) (by rw [c_21]; decide) (by decide) ?_
        exact law_case_21 C hXs hbl hbA hL hj5 fin hLI hS (lv_sub hl [0, 1, 2, 3] rfl)
      by_cases c_22 : ((xs (5 * j)) &&& 63) = 22
      · refine lv_tableIn (off := 980) (tgt := 1012) hx hb dL_law_32 (by rw [c_22]; decide) (by rw [c_22]; decide) (by rw [c_22]; decide) (by decide) ?_
        exact law_case_22 C hXs hbl hbA hL hj5 fin hLI hS (lv_sub hl [0, 1, 2, 3] rfl)
      by_cases c_23 : ((xs (5 * j)) &&& 63) = 23
      · refine lv_tableIn (off := 1013) (tgt := 1045) hx hb dL_law_32 (by rw [c_23]; decide) (by rw [c_23]; decide) (by rw [c_23]; decide) (by decide) ?_
        exact law_case_23 C hXs hbl hbA hL hj5 fin hLI hS (lv_sub hl [0, 1, 2, 3] rfl)
      by_cases c_24 : ((xs (5 * j)) &&& 63) = 24
      · refine lv_tableIn (off := 1046) (tgt := 1078) hx hb dL_law_32 (by rw [c_24]; decide) (by rw [c_24]; decide) (by rw [c_24]; decide) (by decide) ?_
        exact law_case_24 C hXs hbl hbA hL hj5 fin hLI hS (lv_sub hl [0, 1, 2, 3] rfl)
      by_cases c_25 : ((xs (5 * j)) &&& 63) = 25
      · refine lv_tableIn (off := 1079) (tgt := 1111) hx hb dL_law_32 (by rw [c_25]; decide) (by rw [c_25]; decide) (by rw [c_25]; decide) (by decide) ?_
        exact law_case_25 C hXs hbl hbA hL hj5 fin hLI hS (lv_sub hl [0, 1, 2, 3] rfl)
      by_cases c_26 : ((xs (5 * j)) &&& 63) = 26
      · refine lv_tableIn (off := 1112) (tgt := 1144) hx hb dL_law_32 (by rw [c_26]; decide) (by rw [c_26]; decide) (by rw [c_26]; decide) (by decide) ?_
        exact law_case_26 C hXs hbl hbA hL hj5 fin hLI hS (lv_sub hl [0, 1, 2, 3] rfl)
      by_cases c_27 : ((xs (5 * j)) &&& 63) = 27
      · refine lv_tableIn (off := 1135) (tgt := 1167) hx hb dL_law_32 (by rw [c_27]; decide) (by rw [c_27]; decide) (by rw [c_27]; decide) (by decide) ?_
        exact law_case_27 C hXs hbl hbA hL hj5 fin hLI hS (lv_sub hl [0, 1, 2, 3] rfl)
      by_cases c_28 : ((xs (5 * j)) &&& 63) = 28
      · refine lv_tableIn (off := 1158) (tgt := 1190) hx hb dL_law_32 (by rw [c_28]; decide) (by rw [c_28]; decide) (by rw [c_28]; decide) (by decide) ?_
        exact law_case_28 C hXs hbl hbA hL hj5 fin hLI hS (lv_sub hl [0, 1, 2, 3] rfl)
      by_cases c_29 : ((xs (5 * j)) &&& 63) = 29
      · refine lv_tableIn (off := 1181) (tgt := 1213) hx hb dL_law_32 (by rw [c_29]; decide) (by rw [c_29]; decide) (by rw [c_29]; decide) (by decide) ?_
        exact law_case_29 C hXs hbl hbA hL hj5 fin hLI hS (lv_sub hl [0, 1, 2, 3] rfl)
      by_cases c_30 : ((xs (5 * j)) &&& 63) = 30
      · refine lv_tableIn (off := 1214) (tgt := 1246) hx hb dL_law_32 (by rw [c_30]; decide) (by rw [c_30]; decide) (by rw [c_30]; decide) (by decide) ?_
        exact law_case_30 C hXs hbl hbA hL hj5 fin hLI hS (lv_sub hl [0, 1, 2, 3] rfl)
      by_cases c_31 : ((xs (5 * j)) &&& 63) = 31
      · refine lv_tableIn (off := 1247) (tgt := 1279) hx hb dL_law_32 (by rw [c_31]; decide) (by rw [c_31]; decide) (by rw [c_31]; decide) (by decide) ?_
        exact law_case_31 C hXs hbl hbA hL hj5 fin hLI hS (lv_sub hl [0, 1, 2, 3] rfl)
      by_cases c_32 : ((xs (5 * j)) &&& 63) = 32
      · refine lv_tableIn (off := 1280) (tgt := 1312) hx hb dL_law_32 (by rw [c_32]; decide) (by rw [c_32]; decide) (by rw [c_32]; decide) (by decide) ?_
        exact law_case_32 C hXs hbl hbA hL hj5 fin hLI hS (lv_sub hl [0, 1, 2, 3] rfl)
      by_cases c_33 : ((xs (5 * j)) &&& 63) = 33
      · refine lv_tableIn (off := 1303) (tgt := 1335) hx hb dL_law_32 (by rw [c_33]; decide) (by rw [c_33]; decide) (by rw [c_33]; decide) (by decide) ?_
        exact law_case_33 C hXs hbl hbA hL hj5 fin hLI hS (lv_sub hl [0, 1, 2, 3] rfl)
      refine lv_tableOut (tgt := 1358) hx hb dL_law_32 (by have t0 := lv_neT c_0 (a := 0) (by decide); have t1 := lv_neT c_1 (a := 1) (by decide); have t2 := lv_neT c_2 (a := 2) (by decide); have t3 := lv_neT c_3 (a := 3) (by decide); have t4 := lv_neT c_4 (a := 4) (by decide); have t5 := lv_neT c_5 (a := 5) (by decide); have t6 := lv_neT c_6 (a := 6) (by decide); have t7 := lv_neT c_7 (a := 7) (by decide); have t8 := lv_neT c_8 (a := 8) (by decide); have t9 := lv_neT c_9 (a := 9) (by decide); have t10 := lv_neT c_10 (a := 10) (by decide); have t11 := lv_neT c_11 (a := 11) (by decide); have t12 := lv_neT c_12 (a := 12) (by decide); have t13 := lv_neT c_13 (a := 13) (by decide); have t14 := lv_neT c_14 (a := 14) (by decide); have t15 := lv_neT c_15 (a := 15) (by decide); have t16 := lv_neT c_16 (a := 16) (by decide); have t17 := lv_neT c_17 (a := 17) (by decide); have t18 := lv_neT c_18 (a := 18) (by decide); have t19 := lv_neT c_19 (a := 19) (by decide); have t20 := lv_neT c_20 (a := 20) (by decide); have t21 := lv_neT c_21 (a := 21) (by decide); have t22 := lv_neT c_22 (a := 22) (by decide); have t23 := lv_neT c_23 (a := 23) (by decide); have t24 := lv_neT c_24 (a := 24) (by decide); have t25 := lv_neT c_25 (a := 25) (by decide); have t26 := lv_neT c_26 (a := 26) (by decide); have t27 := lv_neT c_27 (a := 27) (by decide); have t28 := lv_neT c_28 (a := 28) (by decide); have t29 := lv_neT c_29 (a := 29) (by decide); have t30 := lv_neT c_30 (a := 30) (by decide); have t31 := lv_neT c_31 (a := 31) (by decide); have t32 := lv_neT c_32 (a := 32) (by decide); have t33 := lv_neT c_33 (a := 33) (by decide);  omega) (by decide) ?_
      refine W.widen (k := 100 + 10 * (j + 1)) (n := 3000 + 60 * (j + 1)) (by omega) (by omega) ?_
      exact fin _ _ _ hLI hS (lv_sub hl [0, 1, 2, 3] rfl)
  exact loop 513 0 (by omega) (by omega) _ _ _ hLI hS (lv_sub hl [3, 2, 1, 0] rfl)
set_option maxHeartbeats 4000000 in
theorem lw_walk (l : Launch) (hflags : l.flags = flags0) (b : Addr) (xs : List Int32) : MetFree l x (headSpec (Jvm.Cond.code x code maxLocals ret :: tables_1) room_1) (lw_P b xs) (fun _ _ _ _ _ => True) lw_Q := by
  refine MetFree.of_bodyS (code := code) (maxLocals := maxLocals) (ret := ret) (by decide) ?_ ?_
  · intro args s m h hn
    obtain ⟨meth, c, h1, h2, h3, h4, h5, h6, -, -⟩ := Cond.code_spec hn (atoms_spec (ws := Jvm.Cond.code x code maxLocals ret :: tables_1) h _ List.mem_cons_self)
    exact ⟨meth, c, h1, h2, h3, h4, h5, h6⟩
  · intro p e s m args below meth c s₁ B hml0 hP _
    obtain ⟨rfl, hx, hbd, hgv⟩ := hP
    obtain ⟨scr, harrAt, hlist, hof, hsmall⟩ := hx
    obtain ⟨hcb, hkn, -, -⟩ := State.arrayAt?_spec harrAt
    have hown : s.vm.findClass R_law = some m.cls := findClass_of_methodNamed B.named
    have hts0 : ∀ c ∈ (Jvm.Cond.code x code maxLocals ret :: tables_1), c.before #[Value.ref b] s = true := atoms_spec (ws := Jvm.Cond.code x code maxLocals ret :: tables_1) B.pre
    have hts : ∀ w ∈ lw_tbl, w.before #[Value.ref b] s = true := k2_hts_sels lw_privs (fun w hw => hts0 w (List.mem_cons_of_mem _ hw)) lw_privs_ok
    have hml : c.maxLocals = 4 := B.maxLocals_eq (hts0 _ List.mem_cons_self)
    have X₀ : Stand p l e room_1 s m #[Value.ref b] below meth c s₁ [] 0 0 := Stand.of_body B
    have hh0 : s₁.heap = s.heap := by rw [B.state]; rfl
    have hsz : scr.slots.size = xs.length := by rw [← Array.length_toList, hlist, List.length_map]
    have hval : ∀ j : Nat, j < xs.length → scr.slots[j]? = some (.int (xs.getD j 0)) := fun j hj => by
      rw [← Array.getElem?_toList, hlist]
      simp [hj]
    have hbl : b < s.heap.size := (Array.getElem?_eq_some_iff.mp hcb).1
    have hX : va_X b xs.length (fun j => xs.getD j 0) s s.heap := ⟨scr, hcb, hof, hkn, hsz, hval⟩
    have K : W p l e room_1 s m #[Value.ref b] below meth c s₁.heap [] 0 0 (lw_Z below #[Value.ref b] s) (entryFrame m ([Value.ref b] : List Value).toArray 4) := by
      rw [hh0]
      exact whole_start l hflags hbd ⟨B.exec, B.bytes, B.returns, hml, hown, hts, hX, hbl, B.notSynchronized, hgv⟩
    obtain ⟨t, a1, o, b1, b2, b3⟩ := K s₁ rfl X₀
    exact ⟨t, o, a1, b1, b2, b3⟩
theorem lw_pre_spec {args : Array Value} {s : State} (h : (Jvm.Cond.and given_1 narrow_1).before args s = true) (hr : rest_1_c.before args s = true) : ∃ (b : Addr) (xs : List Int32), lw_P b xs args s := by
  have hs := flat_of_before _ h
  have hq := flat_of_before _ hr
  have hc : (Cond.count 1).before args s = true := hs _ (by decide +kernel)
  have harr : (Cond.arrayOf (.arg 0) .int).before args s = true := hs _ (by decide +kernel)
  have hle : (Cond.le (.length (.arg 0)) (.int 2560)).before args s = true := hs _ (by decide +kernel)
  have hlen : (Cond.isInt (.length (.arg 0))).before args s = true := hq _ (by decide +kernel)
  have hall : (Cond.all (.arg 0) (.isInt (.elem (.arg 0) (.index 0)))).before args s = true := hq _ (by decide +kernel)
  obtain ⟨b, xs, hb, hx⟩ := State.ints_of_pre rfl harr hlen hall
  have hsm : xs.length < 2 ^ 31 := hx.choose_spec.2.2.2
  have hev : (Term.length (.arg 0)).eval args s none [] s = some (.int xs.length.toInt32) := hx.length_eval hb
  have hv := Cond.le_ints hev (show (Term.int 2560).eval args s none [] s = some (.int 2560) from rfl)
  have hd : xs.length.toInt32 ≤ 2560 := by
    simpa [Cond.before, Cond.holds, hv] using hle
  have hN : xs.length ≤ 2560 := (Int32.ofNat_le_ofNat hsm (by decide)).mp (show Int32.ofNat xs.length ≤ Int32.ofNat 2560 from hd)
  exact ⟨b, xs, Cond.one_arg hc (show args[0]? = some (.ref b) from hb), hx, hN, h⟩
theorem lw_comes (l : Launch) (hflags : l.flags = flags0) : Comes l x (Jvm.Cond.code x code maxLocals ret :: tables_1) room_1 (fun tb e args s => Calls_1 tb e args s ∧ rest_1 tb e args s ∧ Pre_1 tb e args s)
    (fun _ _ args s o t => lw_Q args s o t) := by
  intro p e ha hc hk s m args below hf hfit hheap happ hpre
  obtain ⟨b, xs, hP⟩ := lw_pre_spec hpre.2.2 hpre.2.1
  obtain ⟨k, o, h1, h2, h3, hQ⟩ := lw_walk l hflags b xs p e ha hc hk s m args below hf ((Spec.applies_iff_loose hf).mp happ).1 hP trivial
  exact ⟨k, o, h1, h2, h3, hQ⟩
theorem lw_frame {s t : State} {o : Outcome} {args : Array Value} (h : Framed s o t [] 600000 7302249) :
    Framed s o t (fieldLocs frame_1_writes args s ++ arrayLocs frame_1_arrays args s ++ staticLocs frame_1_statics s) 600000 7302249 := h
theorem lw_limb (L : Cond) (hL : ∀ (args : Array Value) (s t : State), L.after args s (.returned (some (.int 1))) t = true) :
    ArmFor flags0 classFile x code maxLocals ret World_1 tables_1 room_1 Calls_1 rest_1 Pre_1
      (fun tb e a s o t => postC L tb e a s o t ∧ Framed s o t (fieldLocs frame_1_writes a s ++ arrayLocs frame_1_arrays a s ++ staticLocs frame_1_statics s) 600000 7302249) := by
  intro l hflags _ _ p e ha hc hk s m args below hf hfit hheap happ hpre
  obtain ⟨k, o, h1, h2, h3, rfl, hF⟩ := lw_comes l hflags p e ha hc hk s m args below hf hfit hheap happ hpre
  exact ⟨k, _, h1, h2, h3, hL args s _, lw_frame hF⟩
theorem i_vc : Claimed_1_1 ∧ Claimed_1_2 := ⟨lw_limb limb_1_1 (fun args s t => by simp [limb_1_1, Cond.after, Cond.holds, Cond.value]), lw_limb limb_1_2 (fun args s t => Cond.after_iff.mpr (by
  first | (rw [show limb_1_2 = Cond.eq .result (.int 1) from rfl, Cond.eq_ints (x := 1) (y := 1) rfl rfl]; simp; done) | (simp [limb_1_2, Cond.value, Term.eval]; done)))⟩
