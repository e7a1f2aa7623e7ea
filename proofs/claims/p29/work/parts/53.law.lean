set_option maxHeartbeats 4000000 in
set_option maxRecDepth 100000 in
theorem law_case_12 {p : Program} {l : Launch} {e : Env} {s : State} {m : MethodId} {below : List Frame} {meth : Method} {c : Code} {D : va_G} {cy : Nat → ClassId} {b L : Nat} {xs : Nat → Int32} {o mo j : Nat} (C : zC D cy p s m #[Value.ref b] meth c RL cL_law 4) (hXs : va_X b L xs s s.heap) (hbl : b < s.heap.size) (hbA : ¬ zLA s b) (hL : L ≤ 2560) (hj : 5 * j + 5 ≤ L) (fin : ∀ (H : Heap) (locs : List Loc) (ls : Array Slot), zLI D cy s o mo H → va_S (zLA s) s.heap H locs → lv_has ls 4 [(0, .ref b), (1, .ref o), (2, .ref mo), (3, .int (nI (5 * j)))] → W p l e room_1 s m #[Value.ref b] below meth c H locs (100 + 10 * (j + 1)) (3000 + 60 * (j + 1)) (lw_Z below #[Value.ref b] s) (F0 m 1358 ls [])) {H : Heap} {locs : List Loc} {ls : Array Slot} (hLI : zLI D cy s o mo H) (hS : va_S (zLA s) s.heap H locs) (hl : lv_has ls 4 [(0, .ref b), (1, .ref o), (2, .ref mo), (3, .int (nI (5 * j)))]) : W p l e room_1 s m #[Value.ref b] below meth c H locs (100 + 10 * j) (3000 + 60 * j) (lw_Z below #[Value.ref b] s) (F0 m 696 ls []) := by
  have hx := C.1
  have hb := C.2.1
  have hA : ∀ q, s.heap.size ≤ q → zLA s q := fun q h => h
  refine Exists.elim hLI fun fX h90 => h90.elim fun fM h91 => h91.elim fun fa h92 => h92.elim fun fi h93 => h93.elim fun nu h94 => h94.elim fun fm h95 => h95.elim fun co h96 => h96.elim fun en h97 => h97.elim fun ke h98 => h98.elim fun ev h99 => h99.elim fun al h910 => h910.elim fun ra h911 => h911.elim fun kn h912 => h912.elim fun vq h913 => h913.elim fun ge h914 => h914.elim fun ea h915 => h915.elim fun ma h916 => h916.elim fun u1 h917 => h917.elim fun u2 h918 => h918.elim fun u3 h919 => h919.elim fun gv h920 => h920.elim fun nl h921 => h921.elim fun gu h922 => h922.elim fun nn h923 => h923.elim fun ga h924 => h924.elim fun gr h925 => h925.elim fun fg h926 => h926.elim fun pt h927 => h927.elim fun kd h928 => h928.elim fun ln h929 => h929.elim fun pp h930 => h930.elim fun wg h931 => h931.elim fun wd h932 => h932.elim fun hs h933 => h933.elim fun bf h934 => h934.elim fun nf h935 => h935.elim fun gf h936 => h936.elim fun fq h937 => h937.elim fun fk h938 => h938.elim fun fz h939 => h939.elim fun fc h940 => h940.elim fun nc h941 => h941.elim fun gc h942 => h942.elim fun cn h943 => h943.elim fun ce h944 => h944.elim fun cm h945 => h945.elim fun sq h946 => h946.elim fun mb h947 => h947.elim fun ks h948 => h948.elim fun kk h949 => h949.elim fun kv h950 => h950.elim fun lk h951 => h951.elim fun m_wev h952 => h952.elim fun m_wnb h953 => h953.elim fun m_wki h954 => h954.elim fun m_wmy h955 => h955.elim fun m_wce h956 => h956.elim fun m_wiw h957 => h957.elim fun m_wli h958 => h958.elim fun m_wha h959 => h959.elim fun m_wwt h960 => h960.elim fun m_wfy h961 => h961.elim fun m_wfk h962 => h962.elim fun m_wem h963 => h963.elim fun m_wna h964 => h964.elim fun m_wpl h965 => h965.elim fun m_whs h966 => h966.elim fun m_wk1 h967 => h967.elim fun m_wk2 h968 => h968.elim fun m_wk3 h969 => h969.elim fun m_u1 h970 => h970.elim fun m_u2 h971 => h971.elim fun m_u3 h972 => h972.elim fun m_nl h973 => h973.elim fun m_nn h974 => h974.elim fun m_nf h975 => h975.elim fun m_nc h976 => h976.elim fun m_lk h977 => h977.elim fun m_ks h978 => h978.elim fun m_gv h979 => h979.elim fun m_gu h980 => h980.elim fun m_gk h981 => h981.elim fun m_gm h982 => h982.elim fun m_gc h983 => h983.elim fun m_gw h984 => h984.elim fun m_gl h985 => h985.elim fun m_gh h986 => h986.elim fun m_gt h987 => h987.elim fun m_gy h988 => h988.elim fun m_gq h989 => h989.elim fun m_ge1 h990 => h990.elim fun m_gn1 h991 => h991.elim fun m_gp1 h992 => h992.elim fun m_gs h993 => h993.elim fun m_gx1 h994 => h994.elim fun m_gx2 h995 => h995.elim fun m_gx3 h996 => h996.elim fun m_ln h997 => h997.elim fun m_fz h998 => h998.elim fun m_sq h999 => ?_
  clear hLI h90 h91 h92 h93 h94 h95 h96 h97 h98 h99 h910 h911 h912 h913 h914 h915 h916 h917 h918 h919 h920 h921 h922 h923 h924 h925 h926 h927 h928 h929 h930 h931 h932 h933 h934 h935 h936 h937 h938 h939 h940 h941 h942 h943 h944 h945 h946 h947 h948 h949 h950 h951 h952 h953 h954 h955 h956 h957 h958 h959 h960 h961 h962 h963 h964 h965 h966 h967 h968 h969 h970 h971 h972 h973 h974 h975 h976 h977 h978 h979 h980 h981 h982 h983 h984 h985 h986 h987 h988 h989 h990 h991 h992 h993 h994 h995 h996 h997 h998
  obtain ⟨hIX, hIM, hzx, hzm, hd, rfl, rfl, rfl, rfl, rfl, rfl, rfl, rfl, rfl, rfl, rfl, rfl, rfl, rfl, rfl, rfl, rfl, rfl, rfl, rfl, hPC, hFF, hRE, hKR⟩ := h999
  have hl15 := zIM_ln hIM
  have hfz4 := zIM_fz hIM
  have hn60 := zIM_n60 hIM
  have hf60 := zIM_f60 hIM
  have hc60 := zIM_c60 hIM
  have hs40 := zIM_s40 hIM
  refine lv_aload_n hx hb dL_law_696 rfl (lv_at hl 1 rfl) ?_
  refine lv_aload_n hx hb dL_law_697 rfl (lv_at hl 0 rfl) ?_
  refine lv_iload_n hx hb dL_law_698 rfl (lv_at hl 3 rfl) ?_
  refine lv_iconst (v := 1) hx hb dL_law_699 (by decide) ?_
  refine lv_iadd hx hb dL_law_700 ?_
  refine lv_topi (fun y1 e2 => ?_)
  obtain rfl : y1 = nI (5 * j + 1) := e2.trans (nI_add (5 * j) 1)
  refine z_sld (5 * j + 1) hx hb hXs hbl hbA hS rfl (by omega) (by omega) dL_law_701 ?_
  refine z_callVi2 (As := [.int (xs (5 * j + 1))]) C hzx hS hA hl (k_X7_kind l D cy fX o fa fi nu fm co en ke ev al ra kn vq ge ea ma m_u1 m_u2 m_u3 m_gv m_nl m_gu m_nn ga gr fg pt m_gk m_ln pp wg m_gw m_gh bf m_nf gf fq fk m_fz fc m_nc gc cn m_ge1 m_gn1 m_sq mb m_ks kk m_gx3 m_lk (xs (5 * j + 1))  hIX) zyX7_kind mML_69 hIX.1 zl7 rfl rfl (Nat.le_of_ble_eq_true rfl) ⟨Nat.le_of_ble_eq_true rfl, Nat.le_of_ble_eq_true rfl⟩ ⟨show 100 + 10 * j + 0 ≤ 600000 by omega, show 3000 + 60 * j + 0 ≤ 7302249 by omega⟩ dL_law_702 (fun r f1 H locs hp hz1 hS hfr => ?_)
  clear hIX
  refine hp.elim fun v3 h90 => h90.elim fun v4 h91 => h91.elim fun v5 h92 => h92.elim fun v6 h93 => h93.elim fun v7 h94 => h94.elim fun v8 h95 => h95.elim fun v9 h96 => h96.elim fun v10 h97 => h97.elim fun v11 h98 => h98.elim fun v12 h99 => h99.elim fun v13 h910 => h910.elim fun v14 h911 => h911.elim fun v15 h912 => h912.elim fun v16 h913 => h913.elim fun v17 h914 => h914.elim fun v18 h915 => h915.elim fun v19 h916 => h916.elim fun v20 h917 => h917.elim fun v21 h918 => h918.elim fun v22 h919 => h919.elim fun v23 h920 => h920.elim fun v24 h921 => h921.elim fun v25 h922 => h922.elim fun v26 h923 => h923.elim fun v27 h924 => h924.elim fun v28 h925 => h925.elim fun v29 h926 => h926.elim fun v30 h927 => h927.elim fun v31 h928 => h928.elim fun v32 h929 => h929.elim fun v33 h930 => h930.elim fun v34 h931 => h931.elim fun v35 h932 => h932.elim fun v36 h933 => h933.elim fun v37 h934 => ?_
  clear hp h90 h91 h92 h93 h94 h95 h96 h97 h98 h99 h910 h911 h912 h913 h914 h915 h916 h917 h918 h919 h920 h921 h922 h923 h924 h925 h926 h927 h928 h929 h930 h931 h932 h933
  obtain ⟨rfl, e38, e39, e40, e41, e42, e43, e44, e45, e46, e47, e48, e49, e50, e51, e52, e53, e54, e55, e56, e57, e58, e59, e60, e61, hIX⟩ := h934
  obtain ⟨hzm, hd⟩ := hfr fM hzm hd
  have hzx := hz1
  clear hz1 hfr
  obtain ⟨fX, hfx9⟩ : ∃ g : zM, g = f1 := ⟨_, rfl⟩
  rw [← hfx9] at hIX hd hzx
  clear hfx9
  refine lv_pop hx hb dL_law_705 rfl ?_
  refine lv_aload_n hx hb dL_law_706 rfl (lv_at hl 2 rfl) ?_
  refine lv_aload_n hx hb dL_law_707 rfl (lv_at hl 0 rfl) ?_
  refine lv_iload_n hx hb dL_law_708 rfl (lv_at hl 3 rfl) ?_
  refine lv_iconst (v := 1) hx hb dL_law_709 (by decide) ?_
  refine lv_iadd hx hb dL_law_710 ?_
  refine lv_topi (fun y62 e63 => ?_)
  obtain rfl : y62 = nI (5 * j + 1) := e63.trans (nI_add (5 * j) 1)
  refine z_sld (5 * j + 1) hx hb hXs hbl hbA hS rfl (by omega) (by omega) dL_law_711 ?_
  refine z_callVi2 (As := [.int (xs (5 * j + 1))]) C hzm hS hA hl (k_X8_kind l D cy fM mo m_wev m_wnb m_wki m_wmy m_wce m_wiw m_wli m_wha m_wwt m_wfy m_wfk m_wem m_wna m_wpl m_whs m_wk1 m_wk2 m_wk3 m_u1 m_u2 m_u3 m_nl m_nn m_nf m_nc m_lk m_ks m_gv m_gu m_gk m_gm m_gc m_gw m_gl m_gh m_gt m_gy m_gq m_ge1 m_gn1 m_gp1 m_gs m_gx1 m_gx2 m_gx3 m_ln m_fz m_sq (xs (5 * j + 1))  hIM) zyX8_kind mML_72 hIM.1 zl8 rfl rfl (Nat.le_of_ble_eq_true rfl) ⟨Nat.le_of_ble_eq_true rfl, Nat.le_of_ble_eq_true rfl⟩ ⟨show 100 + 10 * j + 0 + 0 ≤ 600000 by omega, show 3000 + 60 * j + 0 + 0 ≤ 7302249 by omega⟩ dL_law_712 (fun r f1 H locs hp hz1 hS hfr => ?_)
  clear hIM
  refine hp.elim fun w64 h90 => h90.elim fun w65 h91 => h91.elim fun w66 h92 => h92.elim fun w67 h93 => h93.elim fun w68 h94 => h94.elim fun w69 h95 => h95.elim fun w70 h96 => h96.elim fun w71 h97 => h97.elim fun w72 h98 => h98.elim fun w73 h99 => h99.elim fun w74 h910 => h910.elim fun w75 h911 => h911.elim fun w76 h912 => h912.elim fun w77 h913 => h913.elim fun w78 h914 => h914.elim fun w79 h915 => h915.elim fun w80 h916 => h916.elim fun w81 h917 => h917.elim fun w82 h918 => h918.elim fun w83 h919 => h919.elim fun w84 h920 => h920.elim fun w85 h921 => h921.elim fun w86 h922 => h922.elim fun w87 h923 => h923.elim fun w88 h924 => h924.elim fun w89 h925 => h925.elim fun w90 h926 => h926.elim fun w91 h927 => h927.elim fun w92 h928 => h928.elim fun w93 h929 => ?_
  clear hp h90 h91 h92 h93 h94 h95 h96 h97 h98 h99 h910 h911 h912 h913 h914 h915 h916 h917 h918 h919 h920 h921 h922 h923 h924 h925 h926 h927 h928
  obtain ⟨rfl, e94, e95, e96, e97, e98, e99, e100, e101, e102, e103, e104, e105, e106, e107, e108, e109, e110, e111, e112, e113, e114, e115, e116, e117, e118, hIM⟩ := h929
  obtain ⟨hzx, hd⟩ := hfr fX hzx (z_dsym hd)
  replace hd := z_dsym hd
  have hzm := hz1
  clear hz1 hfr
  obtain ⟨fM, hfm9⟩ : ∃ g : zM, g = f1 := ⟨_, rfl⟩
  rw [← hfm9] at hIM hd hzm
  clear hfm9
  refine lv_pop hx hb dL_law_715 rfl ?_
  refine lv_goto (tgt := 1358) hx hb dL_law_716 (by decide) ?_
  refine W.widen (k := 100 + 10 * (j + 1)) (n := 3000 + 60 * (j + 1)) (show 100 + 10 * j + 0 + 0 ≤ 100 + 10 * (j + 1) by omega) (show 3000 + 60 * j + 0 + 0 ≤ 3000 + 60 * (j + 1) by omega) ?_
  have hPC9 : zPC v9 v15 v16 w77 := by rw [e44, e46, e47, e105]; exact hPC
  have hFF9 : zFF v21 v25 v26 w83 := by rw [e50, e51, e52, e108]; exact hFF
  have hRE9 : zRE v27 v30 v31 v32 v33 w86 := by rw [e53, e54, e55, e56, e57, e112]; exact hRE
  have hKR8 : zKR v34 v35 w88 w89 := by rw [e58, e59, e115, e116]; exact hKR
  exact fin _ _ _ (z_LI hIX hIM hzx hzm hd ⟨(e94.trans e38.symm), (e95.trans e39.symm), (e96.trans e40.symm), (e97.trans e41.symm), (e98.trans e42.symm), (e99.trans e43.symm), (e100.trans e44.symm), (e101.trans e45.symm), (e103.trans e48.symm), (e102.trans e46.symm), (e104.trans e49.symm), (e106.trans e50.symm), (e107.trans e51.symm), (e109.trans e53.symm), (e110.trans e54.symm), (e111.trans e55.symm), (e113.trans e56.symm), (e118.trans e61.symm), (e114.trans e58.symm), (e117.trans e60.symm), hPC9, hFF9, hRE9, hKR8⟩) hS (lv_sub hl [0, 1, 2, 3] rfl)
set_option maxHeartbeats 4000000 in
set_option maxRecDepth 100000 in
theorem law_case_13 {p : Program} {l : Launch} {e : Env} {s : State} {m : MethodId} {below : List Frame} {meth : Method} {c : Code} {D : va_G} {cy : Nat → ClassId} {b L : Nat} {xs : Nat → Int32} {o mo j : Nat} (C : zC D cy p s m #[Value.ref b] meth c RL cL_law 4) (hXs : va_X b L xs s s.heap) (hbl : b < s.heap.size) (hbA : ¬ zLA s b) (hL : L ≤ 2560) (hj : 5 * j + 5 ≤ L) (fin : ∀ (H : Heap) (locs : List Loc) (ls : Array Slot), zLI D cy s o mo H → va_S (zLA s) s.heap H locs → lv_has ls 4 [(0, .ref b), (1, .ref o), (2, .ref mo), (3, .int (nI (5 * j)))] → W p l e room_1 s m #[Value.ref b] below meth c H locs (100 + 10 * (j + 1)) (3000 + 60 * (j + 1)) (lw_Z below #[Value.ref b] s) (F0 m 1358 ls [])) {H : Heap} {locs : List Loc} {ls : Array Slot} (hLI : zLI D cy s o mo H) (hS : va_S (zLA s) s.heap H locs) (hl : lv_has ls 4 [(0, .ref b), (1, .ref o), (2, .ref mo), (3, .int (nI (5 * j)))]) : W p l e room_1 s m #[Value.ref b] below meth c H locs (100 + 10 * j) (3000 + 60 * j) (lw_Z below #[Value.ref b] s) (F0 m 719 ls []) := by
  have hx := C.1
  have hb := C.2.1
  have hA : ∀ q, s.heap.size ≤ q → zLA s q := fun q h => h
  refine Exists.elim hLI fun fX h90 => h90.elim fun fM h91 => h91.elim fun fa h92 => h92.elim fun fi h93 => h93.elim fun nu h94 => h94.elim fun fm h95 => h95.elim fun co h96 => h96.elim fun en h97 => h97.elim fun ke h98 => h98.elim fun ev h99 => h99.elim fun al h910 => h910.elim fun ra h911 => h911.elim fun kn h912 => h912.elim fun vq h913 => h913.elim fun ge h914 => h914.elim fun ea h915 => h915.elim fun ma h916 => h916.elim fun u1 h917 => h917.elim fun u2 h918 => h918.elim fun u3 h919 => h919.elim fun gv h920 => h920.elim fun nl h921 => h921.elim fun gu h922 => h922.elim fun nn h923 => h923.elim fun ga h924 => h924.elim fun gr h925 => h925.elim fun fg h926 => h926.elim fun pt h927 => h927.elim fun kd h928 => h928.elim fun ln h929 => h929.elim fun pp h930 => h930.elim fun wg h931 => h931.elim fun wd h932 => h932.elim fun hs h933 => h933.elim fun bf h934 => h934.elim fun nf h935 => h935.elim fun gf h936 => h936.elim fun fq h937 => h937.elim fun fk h938 => h938.elim fun fz h939 => h939.elim fun fc h940 => h940.elim fun nc h941 => h941.elim fun gc h942 => h942.elim fun cn h943 => h943.elim fun ce h944 => h944.elim fun cm h945 => h945.elim fun sq h946 => h946.elim fun mb h947 => h947.elim fun ks h948 => h948.elim fun kk h949 => h949.elim fun kv h950 => h950.elim fun lk h951 => h951.elim fun m_wev h952 => h952.elim fun m_wnb h953 => h953.elim fun m_wki h954 => h954.elim fun m_wmy h955 => h955.elim fun m_wce h956 => h956.elim fun m_wiw h957 => h957.elim fun m_wli h958 => h958.elim fun m_wha h959 => h959.elim fun m_wwt h960 => h960.elim fun m_wfy h961 => h961.elim fun m_wfk h962 => h962.elim fun m_wem h963 => h963.elim fun m_wna h964 => h964.elim fun m_wpl h965 => h965.elim fun m_whs h966 => h966.elim fun m_wk1 h967 => h967.elim fun m_wk2 h968 => h968.elim fun m_wk3 h969 => h969.elim fun m_u1 h970 => h970.elim fun m_u2 h971 => h971.elim fun m_u3 h972 => h972.elim fun m_nl h973 => h973.elim fun m_nn h974 => h974.elim fun m_nf h975 => h975.elim fun m_nc h976 => h976.elim fun m_lk h977 => h977.elim fun m_ks h978 => h978.elim fun m_gv h979 => h979.elim fun m_gu h980 => h980.elim fun m_gk h981 => h981.elim fun m_gm h982 => h982.elim fun m_gc h983 => h983.elim fun m_gw h984 => h984.elim fun m_gl h985 => h985.elim fun m_gh h986 => h986.elim fun m_gt h987 => h987.elim fun m_gy h988 => h988.elim fun m_gq h989 => h989.elim fun m_ge1 h990 => h990.elim fun m_gn1 h991 => h991.elim fun m_gp1 h992 => h992.elim fun m_gs h993 => h993.elim fun m_gx1 h994 => h994.elim fun m_gx2 h995 => h995.elim fun m_gx3 h996 => h996.elim fun m_ln h997 => h997.elim fun m_fz h998 => h998.elim fun m_sq h999 => ?_
  clear hLI h90 h91 h92 h93 h94 h95 h96 h97 h98 h99 h910 h911 h912 h913 h914 h915 h916 h917 h918 h919 h920 h921 h922 h923 h924 h925 h926 h927 h928 h929 h930 h931 h932 h933 h934 h935 h936 h937 h938 h939 h940 h941 h942 h943 h944 h945 h946 h947 h948 h949 h950 h951 h952 h953 h954 h955 h956 h957 h958 h959 h960 h961 h962 h963 h964 h965 h966 h967 h968 h969 h970 h971 h972 h973 h974 h975 h976 h977 h978 h979 h980 h981 h982 h983 h984 h985 h986 h987 h988 h989 h990 h991 h992 h993 h994 h995 h996 h997 h998
  obtain ⟨hIX, hIM, hzx, hzm, hd, rfl, rfl, rfl, rfl, rfl, rfl, rfl, rfl, rfl, rfl, rfl, rfl, rfl, rfl, rfl, rfl, rfl, rfl, rfl, rfl, hPC, hFF, hRE, hKR⟩ := h999
  have hl15 := zIM_ln hIM
  have hfz4 := zIM_fz hIM
  have hn60 := zIM_n60 hIM
  have hf60 := zIM_f60 hIM
  have hc60 := zIM_c60 hIM
  have hs40 := zIM_s40 hIM
  refine lv_aload_n hx hb dL_law_719 rfl (lv_at hl 1 rfl) ?_
  refine lv_aload_n hx hb dL_law_720 rfl (lv_at hl 0 rfl) ?_
  refine lv_iload_n hx hb dL_law_721 rfl (lv_at hl 3 rfl) ?_
  refine lv_iconst (v := 1) hx hb dL_law_722 (by decide) ?_
  refine lv_iadd hx hb dL_law_723 ?_
  refine lv_topi (fun y1 e2 => ?_)
  obtain rfl : y1 = nI (5 * j + 1) := e2.trans (nI_add (5 * j) 1)
  refine z_sld (5 * j + 1) hx hb hXs hbl hbA hS rfl (by omega) (by omega) dL_law_724 ?_
  refine z_callVi2 (As := [.int (xs (5 * j + 1))]) C hzx hS hA hl (k_X7_parts l D cy fX o fa fi nu fm co en ke ev al ra kn vq ge ea ma m_u1 m_u2 m_u3 m_gv m_nl m_gu m_nn ga gr fg pt m_gk m_ln pp wg m_gw m_gh bf m_nf gf fq fk m_fz fc m_nc gc cn m_ge1 m_gn1 m_sq mb m_ks kk m_gx3 m_lk (xs (5 * j + 1))  hIX) zyX7_parts mML_73 hIX.1 zl7 rfl rfl (Nat.le_of_ble_eq_true rfl) ⟨Nat.le_of_ble_eq_true rfl, Nat.le_of_ble_eq_true rfl⟩ ⟨show 100 + 10 * j + 0 ≤ 600000 by omega, show 3000 + 60 * j + 0 ≤ 7302249 by omega⟩ dL_law_725 (fun r f1 H locs hp hz1 hS hfr => ?_)
  clear hIX
  refine hp.elim fun v3 h90 => h90.elim fun v4 h91 => h91.elim fun v5 h92 => h92.elim fun v6 h93 => h93.elim fun v7 h94 => h94.elim fun v8 h95 => h95.elim fun v9 h96 => h96.elim fun v10 h97 => h97.elim fun v11 h98 => h98.elim fun v12 h99 => h99.elim fun v13 h910 => h910.elim fun v14 h911 => h911.elim fun v15 h912 => h912.elim fun v16 h913 => h913.elim fun v17 h914 => h914.elim fun v18 h915 => h915.elim fun v19 h916 => h916.elim fun v20 h917 => h917.elim fun v21 h918 => h918.elim fun v22 h919 => h919.elim fun v23 h920 => h920.elim fun v24 h921 => h921.elim fun v25 h922 => h922.elim fun v26 h923 => h923.elim fun v27 h924 => h924.elim fun v28 h925 => h925.elim fun v29 h926 => h926.elim fun v30 h927 => h927.elim fun v31 h928 => h928.elim fun v32 h929 => h929.elim fun v33 h930 => h930.elim fun v34 h931 => h931.elim fun v35 h932 => h932.elim fun v36 h933 => h933.elim fun v37 h934 => ?_
  clear hp h90 h91 h92 h93 h94 h95 h96 h97 h98 h99 h910 h911 h912 h913 h914 h915 h916 h917 h918 h919 h920 h921 h922 h923 h924 h925 h926 h927 h928 h929 h930 h931 h932 h933
  obtain ⟨rfl, e38, e39, e40, e41, e42, e43, e44, e45, e46, e47, e48, e49, e50, e51, e52, e53, e54, e55, e56, e57, e58, e59, e60, e61, hIX⟩ := h934
  obtain ⟨hzm, hd⟩ := hfr fM hzm hd
  have hzx := hz1
  clear hz1 hfr
  obtain ⟨fX, hfx9⟩ : ∃ g : zM, g = f1 := ⟨_, rfl⟩
  rw [← hfx9] at hIX hd hzx
  clear hfx9
  refine lv_pop hx hb dL_law_728 rfl ?_
  refine lv_aload_n hx hb dL_law_729 rfl (lv_at hl 2 rfl) ?_
  refine lv_aload_n hx hb dL_law_730 rfl (lv_at hl 0 rfl) ?_
  refine lv_iload_n hx hb dL_law_731 rfl (lv_at hl 3 rfl) ?_
  refine lv_iconst (v := 1) hx hb dL_law_732 (by decide) ?_
  refine lv_iadd hx hb dL_law_733 ?_
  refine lv_topi (fun y62 e63 => ?_)
  obtain rfl : y62 = nI (5 * j + 1) := e63.trans (nI_add (5 * j) 1)
  refine z_sld (5 * j + 1) hx hb hXs hbl hbA hS rfl (by omega) (by omega) dL_law_734 ?_
  refine z_callVi2 (As := [.int (xs (5 * j + 1))]) C hzm hS hA hl (k_X8_parts l D cy fM mo m_wev m_wnb m_wki m_wmy m_wce m_wiw m_wli m_wha m_wwt m_wfy m_wfk m_wem m_wna m_wpl m_whs m_wk1 m_wk2 m_wk3 m_u1 m_u2 m_u3 m_nl m_nn m_nf m_nc m_lk m_ks m_gv m_gu m_gk m_gm m_gc m_gw m_gl m_gh m_gt m_gy m_gq m_ge1 m_gn1 m_gp1 m_gs m_gx1 m_gx2 m_gx3 m_ln m_fz m_sq (xs (5 * j + 1))  hIM) zyX8_parts mML_76 hIM.1 zl8 rfl rfl (Nat.le_of_ble_eq_true rfl) ⟨Nat.le_of_ble_eq_true rfl, Nat.le_of_ble_eq_true rfl⟩ ⟨show 100 + 10 * j + 0 + 0 ≤ 600000 by omega, show 3000 + 60 * j + 0 + 0 ≤ 7302249 by omega⟩ dL_law_735 (fun r f1 H locs hp hz1 hS hfr => ?_)
  clear hIM
  refine hp.elim fun w64 h90 => h90.elim fun w65 h91 => h91.elim fun w66 h92 => h92.elim fun w67 h93 => h93.elim fun w68 h94 => h94.elim fun w69 h95 => h95.elim fun w70 h96 => h96.elim fun w71 h97 => h97.elim fun w72 h98 => h98.elim fun w73 h99 => h99.elim fun w74 h910 => h910.elim fun w75 h911 => h911.elim fun w76 h912 => h912.elim fun w77 h913 => h913.elim fun w78 h914 => h914.elim fun w79 h915 => h915.elim fun w80 h916 => h916.elim fun w81 h917 => h917.elim fun w82 h918 => h918.elim fun w83 h919 => h919.elim fun w84 h920 => h920.elim fun w85 h921 => h921.elim fun w86 h922 => h922.elim fun w87 h923 => h923.elim fun w88 h924 => h924.elim fun w89 h925 => h925.elim fun w90 h926 => h926.elim fun w91 h927 => h927.elim fun w92 h928 => h928.elim fun w93 h929 => ?_
  clear hp h90 h91 h92 h93 h94 h95 h96 h97 h98 h99 h910 h911 h912 h913 h914 h915 h916 h917 h918 h919 h920 h921 h922 h923 h924 h925 h926 h927 h928
  obtain ⟨rfl, e94, e95, e96, e97, e98, e99, e100, e101, e102, e103, e104, e105, e106, e107, e108, e109, e110, e111, e112, e113, e114, e115, e116, e117, e118, hIM⟩ := h929
  obtain ⟨hzx, hd⟩ := hfr fX hzx (z_dsym hd)
  replace hd := z_dsym hd
  have hzm := hz1
  clear hz1 hfr
  obtain ⟨fM, hfm9⟩ : ∃ g : zM, g = f1 := ⟨_, rfl⟩
  rw [← hfm9] at hIM hd hzm
  clear hfm9
  refine lv_pop hx hb dL_law_738 rfl ?_
  refine lv_goto (tgt := 1358) hx hb dL_law_739 (by decide) ?_
  refine W.widen (k := 100 + 10 * (j + 1)) (n := 3000 + 60 * (j + 1)) (show 100 + 10 * j + 0 + 0 ≤ 100 + 10 * (j + 1) by omega) (show 3000 + 60 * j + 0 + 0 ≤ 3000 + 60 * (j + 1) by omega) ?_
  have hPC9 : zPC v9 v15 v16 w77 := by rw [e44, e46, e47, e105]; exact hPC
  have hFF9 : zFF v21 v25 v26 w83 := by rw [e50, e51, e52, e108]; exact hFF
  have hRE9 : zRE v27 v30 v31 v32 v33 w86 := by rw [e53, e54, e55, e56, e57, e112]; exact hRE
  have hKR8 : zKR v34 v35 w88 w89 := by rw [e58, e59, e115, e116]; exact hKR
  exact fin _ _ _ (z_LI hIX hIM hzx hzm hd ⟨(e94.trans e38.symm), (e95.trans e39.symm), (e96.trans e40.symm), (e97.trans e41.symm), (e98.trans e42.symm), (e99.trans e43.symm), (e100.trans e44.symm), (e101.trans e45.symm), (e103.trans e48.symm), (e102.trans e46.symm), (e104.trans e49.symm), (e106.trans e50.symm), (e107.trans e51.symm), (e109.trans e53.symm), (e110.trans e54.symm), (e111.trans e55.symm), (e113.trans e56.symm), (e118.trans e61.symm), (e114.trans e58.symm), (e117.trans e60.symm), hPC9, hFF9, hRE9, hKR8⟩) hS (lv_sub hl [0, 1, 2, 3] rfl)
set_option maxHeartbeats 4000000 in
set_option maxRecDepth 100000 in
theorem law_case_14 {p : Program} {l : Launch} {e : Env} {s : State} {m : MethodId} {below : List Frame} {meth : Method} {c : Code} {D : va_G} {cy : Nat → ClassId} {b L : Nat} {xs : Nat → Int32} {o mo j : Nat} (C : zC D cy p s m #[Value.ref b] meth c RL cL_law 4) (hXs : va_X b L xs s s.heap) (hbl : b < s.heap.size) (hbA : ¬ zLA s b) (hL : L ≤ 2560) (hj : 5 * j + 5 ≤ L) (fin : ∀ (H : Heap) (locs : List Loc) (ls : Array Slot), zLI D cy s o mo H → va_S (zLA s) s.heap H locs → lv_has ls 4 [(0, .ref b), (1, .ref o), (2, .ref mo), (3, .int (nI (5 * j)))] → W p l e room_1 s m #[Value.ref b] below meth c H locs (100 + 10 * (j + 1)) (3000 + 60 * (j + 1)) (lw_Z below #[Value.ref b] s) (F0 m 1358 ls [])) {H : Heap} {locs : List Loc} {ls : Array Slot} (hLI : zLI D cy s o mo H) (hS : va_S (zLA s) s.heap H locs) (hl : lv_has ls 4 [(0, .ref b), (1, .ref o), (2, .ref mo), (3, .int (nI (5 * j)))]) : W p l e room_1 s m #[Value.ref b] below meth c H locs (100 + 10 * j) (3000 + 60 * j) (lw_Z below #[Value.ref b] s) (F0 m 742 ls []) := by
  have hx := C.1
  have hb := C.2.1
  have hA : ∀ q, s.heap.size ≤ q → zLA s q := fun q h => h
  refine Exists.elim hLI fun fX h90 => h90.elim fun fM h91 => h91.elim fun fa h92 => h92.elim fun fi h93 => h93.elim fun nu h94 => h94.elim fun fm h95 => h95.elim fun co h96 => h96.elim fun en h97 => h97.elim fun ke h98 => h98.elim fun ev h99 => h99.elim fun al h910 => h910.elim fun ra h911 => h911.elim fun kn h912 => h912.elim fun vq h913 => h913.elim fun ge h914 => h914.elim fun ea h915 => h915.elim fun ma h916 => h916.elim fun u1 h917 => h917.elim fun u2 h918 => h918.elim fun u3 h919 => h919.elim fun gv h920 => h920.elim fun nl h921 => h921.elim fun gu h922 => h922.elim fun nn h923 => h923.elim fun ga h924 => h924.elim fun gr h925 => h925.elim fun fg h926 => h926.elim fun pt h927 => h927.elim fun kd h928 => h928.elim fun ln h929 => h929.elim fun pp h930 => h930.elim fun wg h931 => h931.elim fun wd h932 => h932.elim fun hs h933 => h933.elim fun bf h934 => h934.elim fun nf h935 => h935.elim fun gf h936 => h936.elim fun fq h937 => h937.elim fun fk h938 => h938.elim fun fz h939 => h939.elim fun fc h940 => h940.elim fun nc h941 => h941.elim fun gc h942 => h942.elim fun cn h943 => h943.elim fun ce h944 => h944.elim fun cm h945 => h945.elim fun sq h946 => h946.elim fun mb h947 => h947.elim fun ks h948 => h948.elim fun kk h949 => h949.elim fun kv h950 => h950.elim fun lk h951 => h951.elim fun m_wev h952 => h952.elim fun m_wnb h953 => h953.elim fun m_wki h954 => h954.elim fun m_wmy h955 => h955.elim fun m_wce h956 => h956.elim fun m_wiw h957 => h957.elim fun m_wli h958 => h958.elim fun m_wha h959 => h959.elim fun m_wwt h960 => h960.elim fun m_wfy h961 => h961.elim fun m_wfk h962 => h962.elim fun m_wem h963 => h963.elim fun m_wna h964 => h964.elim fun m_wpl h965 => h965.elim fun m_whs h966 => h966.elim fun m_wk1 h967 => h967.elim fun m_wk2 h968 => h968.elim fun m_wk3 h969 => h969.elim fun m_u1 h970 => h970.elim fun m_u2 h971 => h971.elim fun m_u3 h972 => h972.elim fun m_nl h973 => h973.elim fun m_nn h974 => h974.elim fun m_nf h975 => h975.elim fun m_nc h976 => h976.elim fun m_lk h977 => h977.elim fun m_ks h978 => h978.elim fun m_gv h979 => h979.elim fun m_gu h980 => h980.elim fun m_gk h981 => h981.elim fun m_gm h982 => h982.elim fun m_gc h983 => h983.elim fun m_gw h984 => h984.elim fun m_gl h985 => h985.elim fun m_gh h986 => h986.elim fun m_gt h987 => h987.elim fun m_gy h988 => h988.elim fun m_gq h989 => h989.elim fun m_ge1 h990 => h990.elim fun m_gn1 h991 => h991.elim fun m_gp1 h992 => h992.elim fun m_gs h993 => h993.elim fun m_gx1 h994 => h994.elim fun m_gx2 h995 => h995.elim fun m_gx3 h996 => h996.elim fun m_ln h997 => h997.elim fun m_fz h998 => h998.elim fun m_sq h999 => ?_
  clear hLI h90 h91 h92 h93 h94 h95 h96 h97 h98 h99 h910 h911 h912 h913 h914 h915 h916 h917 h918 h919 h920 h921 h922 h923 h924 h925 h926 h927 h928 h929 h930 h931 h932 h933 h934 h935 h936 h937 h938 h939 h940 h941 h942 h943 h944 h945 h946 h947 h948 h949 h950 h951 h952 h953 h954 h955 h956 h957 h958 h959 h960 h961 h962 h963 h964 h965 h966 h967 h968 h969 h970 h971 h972 h973 h974 h975 h976 h977 h978 h979 h980 h981 h982 h983 h984 h985 h986 h987 h988 h989 h990 h991 h992 h993 h994 h995 h996 h997 h998
  obtain ⟨hIX, hIM, hzx, hzm, hd, rfl, rfl, rfl, rfl, rfl, rfl, rfl, rfl, rfl, rfl, rfl, rfl, rfl, rfl, rfl, rfl, rfl, rfl, rfl, rfl, hPC, hFF, hRE, hKR⟩ := h999
  have hl15 := zIM_ln hIM
  have hfz4 := zIM_fz hIM
  have hn60 := zIM_n60 hIM
  have hf60 := zIM_f60 hIM
  have hc60 := zIM_c60 hIM
  have hs40 := zIM_s40 hIM
  refine lv_aload_n hx hb dL_law_742 rfl (lv_at hl 1 rfl) ?_
  refine lv_aload_n hx hb dL_law_743 rfl (lv_at hl 0 rfl) ?_
  refine lv_iload_n hx hb dL_law_744 rfl (lv_at hl 3 rfl) ?_
  refine lv_iconst (v := 1) hx hb dL_law_745 (by decide) ?_
  refine lv_iadd hx hb dL_law_746 ?_
  refine lv_topi (fun y1 e2 => ?_)
  obtain rfl : y1 = nI (5 * j + 1) := e2.trans (nI_add (5 * j) 1)
  refine z_sld (5 * j + 1) hx hb hXs hbl hbA hS rfl (by omega) (by omega) dL_law_747 ?_
  refine lv_aload_n hx hb dL_law_748 rfl (lv_at hl 0 rfl) ?_
  refine lv_iload_n hx hb dL_law_749 rfl (lv_at hl 3 rfl) ?_
  refine lv_iconst (v := 2) hx hb dL_law_750 (by decide) ?_
  refine lv_iadd hx hb dL_law_751 ?_
  refine lv_topi (fun y3 e4 => ?_)
  obtain rfl : y3 = nI (5 * j + 2) := e4.trans (nI_add (5 * j) 2)
  refine z_sld (5 * j + 2) hx hb hXs hbl hbA hS rfl (by omega) (by omega) dL_law_752 ?_
  refine z_callVl2 (As := [.int (xs (5 * j + 1)), .int (xs (5 * j + 2))]) C hzx hS hA hl (k_X7_part l D cy fX o fa fi nu fm co en ke ev al ra kn vq ge ea ma m_u1 m_u2 m_u3 m_gv m_nl m_gu m_nn ga gr fg pt m_gk m_ln pp wg m_gw m_gh bf m_nf gf fq fk m_fz fc m_nc gc cn m_ge1 m_gn1 m_sq mb m_ks kk m_gx3 m_lk (xs (5 * j + 1)) (xs (5 * j + 2))  hIX) zyX7_part mML_77 hIX.1 zl7 rfl rfl (Nat.le_of_ble_eq_true rfl) ⟨Nat.le_of_ble_eq_true rfl, Nat.le_of_ble_eq_true rfl⟩ ⟨show 100 + 10 * j + 0 ≤ 600000 by omega, show 3000 + 60 * j + 0 ≤ 7302249 by omega⟩ dL_law_753 (fun r f1 H locs hp hz1 hS hfr => ?_)
  clear hIX
  refine hp.elim fun v5 h90 => h90.elim fun v6 h91 => h91.elim fun v7 h92 => h92.elim fun v8 h93 => h93.elim fun v9 h94 => h94.elim fun v10 h95 => h95.elim fun v11 h96 => h96.elim fun v12 h97 => h97.elim fun v13 h98 => h98.elim fun v14 h99 => h99.elim fun v15 h910 => h910.elim fun v16 h911 => h911.elim fun v17 h912 => h912.elim fun v18 h913 => h913.elim fun v19 h914 => h914.elim fun v20 h915 => h915.elim fun v21 h916 => h916.elim fun v22 h917 => h917.elim fun v23 h918 => h918.elim fun v24 h919 => h919.elim fun v25 h920 => h920.elim fun v26 h921 => h921.elim fun v27 h922 => h922.elim fun v28 h923 => h923.elim fun v29 h924 => h924.elim fun v30 h925 => h925.elim fun v31 h926 => h926.elim fun v32 h927 => h927.elim fun v33 h928 => h928.elim fun v34 h929 => h929.elim fun v35 h930 => h930.elim fun v36 h931 => h931.elim fun v37 h932 => h932.elim fun v38 h933 => h933.elim fun v39 h934 => ?_
  clear hp h90 h91 h92 h93 h94 h95 h96 h97 h98 h99 h910 h911 h912 h913 h914 h915 h916 h917 h918 h919 h920 h921 h922 h923 h924 h925 h926 h927 h928 h929 h930 h931 h932 h933
  obtain ⟨rfl, e40, e41, e42, e43, e44, e45, e46, e47, e48, e49, e50, e51, e52, e53, e54, e55, e56, e57, e58, e59, e60, e61, e62, e63, hIX⟩ := h934
  obtain ⟨hzm, hd⟩ := hfr fM hzm hd
  have hzx := hz1
  clear hz1 hfr
  obtain ⟨fX, hfx9⟩ : ∃ g : zM, g = f1 := ⟨_, rfl⟩
  rw [← hfx9] at hIX hd hzx
  clear hfx9
  refine lv_topl (fun y64 e65 => ?_)
  obtain rfl : y64 = q_part m_nn m_ln (fun i j => m_gc (16 * i + j)) (xs (5 * j + 1)) (xs (5 * j + 2)) := e65.trans (q_part_congr hPC hl15 hn60)
  refine lv_pop2_2 hx hb dL_law_756 rfl ?_
  refine lv_aload_n hx hb dL_law_757 rfl (lv_at hl 2 rfl) ?_
  refine lv_aload_n hx hb dL_law_758 rfl (lv_at hl 0 rfl) ?_
  refine lv_iload_n hx hb dL_law_759 rfl (lv_at hl 3 rfl) ?_
  refine lv_iconst (v := 1) hx hb dL_law_760 (by decide) ?_
  refine lv_iadd hx hb dL_law_761 ?_
  refine lv_topi (fun y66 e67 => ?_)
  obtain rfl : y66 = nI (5 * j + 1) := e67.trans (nI_add (5 * j) 1)
  refine z_sld (5 * j + 1) hx hb hXs hbl hbA hS rfl (by omega) (by omega) dL_law_762 ?_
  refine lv_aload_n hx hb dL_law_763 rfl (lv_at hl 0 rfl) ?_
  refine lv_iload_n hx hb dL_law_764 rfl (lv_at hl 3 rfl) ?_
  refine lv_iconst (v := 2) hx hb dL_law_765 (by decide) ?_
  refine lv_iadd hx hb dL_law_766 ?_
  refine lv_topi (fun y68 e69 => ?_)
  obtain rfl : y68 = nI (5 * j + 2) := e69.trans (nI_add (5 * j) 2)
  refine z_sld (5 * j + 2) hx hb hXs hbl hbA hS rfl (by omega) (by omega) dL_law_767 ?_
  refine z_callVl2 (As := [.int (xs (5 * j + 1)), .int (xs (5 * j + 2))]) C hzm hS hA hl (k_X8_part_ l D cy fM mo m_wev m_wnb m_wki m_wmy m_wce m_wiw m_wli m_wha m_wwt m_wfy m_wfk m_wem m_wna m_wpl m_whs m_wk1 m_wk2 m_wk3 m_u1 m_u2 m_u3 m_nl m_nn m_nf m_nc m_lk m_ks m_gv m_gu m_gk m_gm m_gc m_gw m_gl m_gh m_gt m_gy m_gq m_ge1 m_gn1 m_gp1 m_gs m_gx1 m_gx2 m_gx3 m_ln m_fz m_sq (xs (5 * j + 1)) (xs (5 * j + 2))  hIM) zyX8_part_ mML_81 hIM.1 zl8 rfl rfl (Nat.le_of_ble_eq_true rfl) ⟨Nat.le_of_ble_eq_true rfl, Nat.le_of_ble_eq_true rfl⟩ ⟨show 100 + 10 * j + 0 + 0 ≤ 600000 by omega, show 3000 + 60 * j + 0 + 0 ≤ 7302249 by omega⟩ dL_law_768 (fun r f1 H locs hp hz1 hS hfr => ?_)
  clear hIM
  refine hp.elim fun w70 h90 => h90.elim fun w71 h91 => h91.elim fun w72 h92 => h92.elim fun w73 h93 => h93.elim fun w74 h94 => h94.elim fun w75 h95 => h95.elim fun w76 h96 => h96.elim fun w77 h97 => h97.elim fun w78 h98 => h98.elim fun w79 h99 => h99.elim fun w80 h910 => h910.elim fun w81 h911 => h911.elim fun w82 h912 => h912.elim fun w83 h913 => h913.elim fun w84 h914 => h914.elim fun w85 h915 => h915.elim fun w86 h916 => h916.elim fun w87 h917 => h917.elim fun w88 h918 => h918.elim fun w89 h919 => h919.elim fun w90 h920 => h920.elim fun w91 h921 => h921.elim fun w92 h922 => h922.elim fun w93 h923 => h923.elim fun w94 h924 => h924.elim fun w95 h925 => h925.elim fun w96 h926 => h926.elim fun w97 h927 => h927.elim fun w98 h928 => h928.elim fun w99 h929 => ?_
  clear hp h90 h91 h92 h93 h94 h95 h96 h97 h98 h99 h910 h911 h912 h913 h914 h915 h916 h917 h918 h919 h920 h921 h922 h923 h924 h925 h926 h927 h928
  obtain ⟨rfl, e100, e101, e102, e103, e104, e105, e106, e107, e108, e109, e110, e111, e112, e113, e114, e115, e116, e117, e118, e119, e120, e121, e122, e123, e124, hIM⟩ := h929
  obtain ⟨hzx, hd⟩ := hfr fX hzx (z_dsym hd)
  replace hd := z_dsym hd
  have hzm := hz1
  clear hz1 hfr
  obtain ⟨fM, hfm9⟩ : ∃ g : zM, g = f1 := ⟨_, rfl⟩
  rw [← hfm9] at hIM hd hzm
  clear hfm9
  refine lv_pop2_2 hx hb dL_law_771 rfl ?_
  refine lv_goto (tgt := 1358) hx hb dL_law_772 (by decide) ?_
  refine W.widen (k := 100 + 10 * (j + 1)) (n := 3000 + 60 * (j + 1)) (show 100 + 10 * j + 0 + 0 ≤ 100 + 10 * (j + 1) by omega) (show 3000 + 60 * j + 0 + 0 ≤ 3000 + 60 * (j + 1) by omega) ?_
  have hPC9 : zPC v11 v17 v18 w83 := by rw [e46, e48, e49, e111]; exact hPC
  have hFF9 : zFF v23 v27 v28 w89 := by rw [e52, e53, e54, e114]; exact hFF
  have hRE9 : zRE v29 v32 v33 v34 v35 w92 := by rw [e55, e56, e57, e58, e59, e118]; exact hRE
  have hKR8 : zKR v36 v37 w94 w95 := by rw [e60, e61, e121, e122]; exact hKR
  exact fin _ _ _ (z_LI hIX hIM hzx hzm hd ⟨(e100.trans e40.symm), (e101.trans e41.symm), (e102.trans e42.symm), (e103.trans e43.symm), (e104.trans e44.symm), (e105.trans e45.symm), (e106.trans e46.symm), (e107.trans e47.symm), (e109.trans e50.symm), (e108.trans e48.symm), (e110.trans e51.symm), (e112.trans e52.symm), (e113.trans e53.symm), (e115.trans e55.symm), (e116.trans e56.symm), (e117.trans e57.symm), (e119.trans e58.symm), (e124.trans e63.symm), (e120.trans e60.symm), (e123.trans e62.symm), hPC9, hFF9, hRE9, hKR8⟩) hS (lv_sub hl [0, 1, 2, 3] rfl)
set_option maxHeartbeats 4000000 in
set_option maxRecDepth 100000 in
theorem law_case_15 {p : Program} {l : Launch} {e : Env} {s : State} {m : MethodId} {below : List Frame} {meth : Method} {c : Code} {D : va_G} {cy : Nat → ClassId} {b L : Nat} {xs : Nat → Int32} {o mo j : Nat} (C : zC D cy p s m #[Value.ref b] meth c RL cL_law 4) (hXs : va_X b L xs s s.heap) (hbl : b < s.heap.size) (hbA : ¬ zLA s b) (hL : L ≤ 2560) (hj : 5 * j + 5 ≤ L) (fin : ∀ (H : Heap) (locs : List Loc) (ls : Array Slot), zLI D cy s o mo H → va_S (zLA s) s.heap H locs → lv_has ls 4 [(0, .ref b), (1, .ref o), (2, .ref mo), (3, .int (nI (5 * j)))] → W p l e room_1 s m #[Value.ref b] below meth c H locs (100 + 10 * (j + 1)) (3000 + 60 * (j + 1)) (lw_Z below #[Value.ref b] s) (F0 m 1358 ls [])) {H : Heap} {locs : List Loc} {ls : Array Slot} (hLI : zLI D cy s o mo H) (hS : va_S (zLA s) s.heap H locs) (hl : lv_has ls 4 [(0, .ref b), (1, .ref o), (2, .ref mo), (3, .int (nI (5 * j)))]) : W p l e room_1 s m #[Value.ref b] below meth c H locs (100 + 10 * j) (3000 + 60 * j) (lw_Z below #[Value.ref b] s) (F0 m 775 ls []) := by
  have hx := C.1
  have hb := C.2.1
  have hA : ∀ q, s.heap.size ≤ q → zLA s q := fun q h => h
  refine Exists.elim hLI fun fX h90 => h90.elim fun fM h91 => h91.elim fun fa h92 => h92.elim fun fi h93 => h93.elim fun nu h94 => h94.elim fun fm h95 => h95.elim fun co h96 => h96.elim fun en h97 => h97.elim fun ke h98 => h98.elim fun ev h99 => h99.elim fun al h910 => h910.elim fun ra h911 => h911.elim fun kn h912 => h912.elim fun vq h913 => h913.elim fun ge h914 => h914.elim fun ea h915 => h915.elim fun ma h916 => h916.elim fun u1 h917 => h917.elim fun u2 h918 => h918.elim fun u3 h919 => h919.elim fun gv h920 => h920.elim fun nl h921 => h921.elim fun gu h922 => h922.elim fun nn h923 => h923.elim fun ga h924 => h924.elim fun gr h925 => h925.elim fun fg h926 => h926.elim fun pt h927 => h927.elim fun kd h928 => h928.elim fun ln h929 => h929.elim fun pp h930 => h930.elim fun wg h931 => h931.elim fun wd h932 => h932.elim fun hs h933 => h933.elim fun bf h934 => h934.elim fun nf h935 => h935.elim fun gf h936 => h936.elim fun fq h937 => h937.elim fun fk h938 => h938.elim fun fz h939 => h939.elim fun fc h940 => h940.elim fun nc h941 => h941.elim fun gc h942 => h942.elim fun cn h943 => h943.elim fun ce h944 => h944.elim fun cm h945 => h945.elim fun sq h946 => h946.elim fun mb h947 => h947.elim fun ks h948 => h948.elim fun kk h949 => h949.elim fun kv h950 => h950.elim fun lk h951 => h951.elim fun m_wev h952 => h952.elim fun m_wnb h953 => h953.elim fun m_wki h954 => h954.elim fun m_wmy h955 => h955.elim fun m_wce h956 => h956.elim fun m_wiw h957 => h957.elim fun m_wli h958 => h958.elim fun m_wha h959 => h959.elim fun m_wwt h960 => h960.elim fun m_wfy h961 => h961.elim fun m_wfk h962 => h962.elim fun m_wem h963 => h963.elim fun m_wna h964 => h964.elim fun m_wpl h965 => h965.elim fun m_whs h966 => h966.elim fun m_wk1 h967 => h967.elim fun m_wk2 h968 => h968.elim fun m_wk3 h969 => h969.elim fun m_u1 h970 => h970.elim fun m_u2 h971 => h971.elim fun m_u3 h972 => h972.elim fun m_nl h973 => h973.elim fun m_nn h974 => h974.elim fun m_nf h975 => h975.elim fun m_nc h976 => h976.elim fun m_lk h977 => h977.elim fun m_ks h978 => h978.elim fun m_gv h979 => h979.elim fun m_gu h980 => h980.elim fun m_gk h981 => h981.elim fun m_gm h982 => h982.elim fun m_gc h983 => h983.elim fun m_gw h984 => h984.elim fun m_gl h985 => h985.elim fun m_gh h986 => h986.elim fun m_gt h987 => h987.elim fun m_gy h988 => h988.elim fun m_gq h989 => h989.elim fun m_ge1 h990 => h990.elim fun m_gn1 h991 => h991.elim fun m_gp1 h992 => h992.elim fun m_gs h993 => h993.elim fun m_gx1 h994 => h994.elim fun m_gx2 h995 => h995.elim fun m_gx3 h996 => h996.elim fun m_ln h997 => h997.elim fun m_fz h998 => h998.elim fun m_sq h999 => ?_
  clear hLI h90 h91 h92 h93 h94 h95 h96 h97 h98 h99 h910 h911 h912 h913 h914 h915 h916 h917 h918 h919 h920 h921 h922 h923 h924 h925 h926 h927 h928 h929 h930 h931 h932 h933 h934 h935 h936 h937 h938 h939 h940 h941 h942 h943 h944 h945 h946 h947 h948 h949 h950 h951 h952 h953 h954 h955 h956 h957 h958 h959 h960 h961 h962 h963 h964 h965 h966 h967 h968 h969 h970 h971 h972 h973 h974 h975 h976 h977 h978 h979 h980 h981 h982 h983 h984 h985 h986 h987 h988 h989 h990 h991 h992 h993 h994 h995 h996 h997 h998
  obtain ⟨hIX, hIM, hzx, hzm, hd, rfl, rfl, rfl, rfl, rfl, rfl, rfl, rfl, rfl, rfl, rfl, rfl, rfl, rfl, rfl, rfl, rfl, rfl, rfl, rfl, hPC, hFF, hRE, hKR⟩ := h999
  have hl15 := zIM_ln hIM
  have hfz4 := zIM_fz hIM
  have hn60 := zIM_n60 hIM
  have hf60 := zIM_f60 hIM
  have hc60 := zIM_c60 hIM
  have hs40 := zIM_s40 hIM
  refine lv_aload_n hx hb dL_law_775 rfl (lv_at hl 1 rfl) ?_
  refine lv_aload_n hx hb dL_law_776 rfl (lv_at hl 0 rfl) ?_
  refine lv_iload_n hx hb dL_law_777 rfl (lv_at hl 3 rfl) ?_
  refine lv_iconst (v := 1) hx hb dL_law_778 (by decide) ?_
  refine lv_iadd hx hb dL_law_779 ?_
  refine lv_topi (fun y1 e2 => ?_)
  obtain rfl : y1 = nI (5 * j + 1) := e2.trans (nI_add (5 * j) 1)
  refine z_sld (5 * j + 1) hx hb hXs hbl hbA hS rfl (by omega) (by omega) dL_law_780 ?_
  refine lv_aload_n hx hb dL_law_781 rfl (lv_at hl 0 rfl) ?_
  refine lv_iload_n hx hb dL_law_782 rfl (lv_at hl 3 rfl) ?_
  refine lv_iconst (v := 2) hx hb dL_law_783 (by decide) ?_
  refine lv_iadd hx hb dL_law_784 ?_
  refine lv_topi (fun y3 e4 => ?_)
  obtain rfl : y3 = nI (5 * j + 2) := e4.trans (nI_add (5 * j) 2)
  refine z_sld (5 * j + 2) hx hb hXs hbl hbA hS rfl (by omega) (by omega) dL_law_785 ?_
  refine lv_if_eq (tgt := 793) hx hb dL_law_786 (by decide) (fun c5 => ?_) (fun c5 => ?_)
  · refine lv_iconst (v := 0) hx hb dL_law_793 (by decide) ?_
    refine z_callVl2 (As := [.int (xs (5 * j + 1)), .int 0]) C hzx hS hA hl (k_X7_weight l D cy fX o fa fi nu fm co en ke ev al ra kn vq ge ea ma m_u1 m_u2 m_u3 m_gv m_nl m_gu m_nn ga gr fg pt m_gk m_ln pp wg m_gw m_gh bf m_nf gf fq fk m_fz fc m_nc gc cn m_ge1 m_gn1 m_sq mb m_ks kk m_gx3 m_lk (xs (5 * j + 1)) (0 : Int32)  hIX) zyX7_weight mML_82 hIX.1 zl7 rfl rfl (Nat.le_of_ble_eq_true rfl) ⟨Nat.le_of_ble_eq_true rfl, Nat.le_of_ble_eq_true rfl⟩ ⟨show 100 + 10 * j + 0 ≤ 600000 by omega, show 3000 + 60 * j + 0 ≤ 7302249 by omega⟩ dL_law_794 (fun r6 f1 H locs hp hz1 hS hfr => ?_)
    clear hIX
    refine hp.elim fun v7 h90 => h90.elim fun v8 h91 => h91.elim fun v9 h92 => h92.elim fun v10 h93 => h93.elim fun v11 h94 => h94.elim fun v12 h95 => h95.elim fun v13 h96 => h96.elim fun v14 h97 => h97.elim fun v15 h98 => h98.elim fun v16 h99 => h99.elim fun v17 h910 => h910.elim fun v18 h911 => h911.elim fun v19 h912 => h912.elim fun v20 h913 => h913.elim fun v21 h914 => h914.elim fun v22 h915 => h915.elim fun v23 h916 => h916.elim fun v24 h917 => h917.elim fun v25 h918 => h918.elim fun v26 h919 => h919.elim fun v27 h920 => h920.elim fun v28 h921 => h921.elim fun v29 h922 => h922.elim fun v30 h923 => h923.elim fun v31 h924 => h924.elim fun v32 h925 => h925.elim fun v33 h926 => h926.elim fun v34 h927 => h927.elim fun v35 h928 => h928.elim fun v36 h929 => h929.elim fun v37 h930 => h930.elim fun v38 h931 => h931.elim fun v39 h932 => h932.elim fun v40 h933 => h933.elim fun v41 h934 => ?_
    clear hp h90 h91 h92 h93 h94 h95 h96 h97 h98 h99 h910 h911 h912 h913 h914 h915 h916 h917 h918 h919 h920 h921 h922 h923 h924 h925 h926 h927 h928 h929 h930 h931 h932 h933
    obtain ⟨e42, e43, e44, e45, e46, e47, e48, e49, e50, e51, e52, e53, e54, e55, e56, e57, e58, e59, e60, e61, e62, e63, e64, e65, hIX⟩ := h934
    obtain ⟨hzm, hd⟩ := hfr fM hzm hd
    have hzx := hz1
    clear hz1 hfr
    obtain ⟨fX, hfx9⟩ : ∃ g : zM, g = f1 := ⟨_, rfl⟩
    rw [← hfx9] at hIX hd hzx
    clear hfx9
    refine lv_pop2_2 hx hb dL_law_797 rfl ?_
    refine lv_aload_n hx hb dL_law_798 rfl (lv_at hl 2 rfl) ?_
    refine lv_aload_n hx hb dL_law_799 rfl (lv_at hl 0 rfl) ?_
    refine lv_iload_n hx hb dL_law_800 rfl (lv_at hl 3 rfl) ?_
    refine lv_iconst (v := 1) hx hb dL_law_801 (by decide) ?_
    refine lv_iadd hx hb dL_law_802 ?_
    refine lv_topi (fun y66 e67 => ?_)
    obtain rfl : y66 = nI (5 * j + 1) := e67.trans (nI_add (5 * j) 1)
    refine z_sld (5 * j + 1) hx hb hXs hbl hbA hS rfl (by omega) (by omega) dL_law_803 ?_
    refine lv_aload_n hx hb dL_law_804 rfl (lv_at hl 0 rfl) ?_
    refine lv_iload_n hx hb dL_law_805 rfl (lv_at hl 3 rfl) ?_
    refine lv_iconst (v := 2) hx hb dL_law_806 (by decide) ?_
    refine lv_iadd hx hb dL_law_807 ?_
    refine lv_topi (fun y68 e69 => ?_)
    obtain rfl : y68 = nI (5 * j + 2) := e69.trans (nI_add (5 * j) 2)
    refine z_sld (5 * j + 2) hx hb hXs hbl hbA hS rfl (by omega) (by omega) dL_law_808 ?_
    refine lv_if_eq (tgt := 816) hx hb dL_law_809 (by decide) (fun c71 => ?_) (fun c71 => ?_)
    rotate_left
    · exact absurd c5 c71
    refine lv_iconst (v := 0) hx hb dL_law_816 (by decide) ?_
    refine z_callVl2 (As := [.int (xs (5 * j + 1)), .int 0]) C hzm hS hA hl (k_X8_weight l D cy fM mo m_wev m_wnb m_wki m_wmy m_wce m_wiw m_wli m_wha m_wwt m_wfy m_wfk m_wem m_wna m_wpl m_whs m_wk1 m_wk2 m_wk3 m_u1 m_u2 m_u3 m_nl m_nn m_nf m_nc m_lk m_ks m_gv m_gu m_gk m_gm m_gc m_gw m_gl m_gh m_gt m_gy m_gq m_ge1 m_gn1 m_gp1 m_gs m_gx1 m_gx2 m_gx3 m_ln m_fz m_sq (xs (5 * j + 1)) (0 : Int32)  hIM) zyX8_weight mML_86 hIM.1 zl8 rfl rfl (Nat.le_of_ble_eq_true rfl) ⟨Nat.le_of_ble_eq_true rfl, Nat.le_of_ble_eq_true rfl⟩ ⟨show 100 + 10 * j + 0 + 0 ≤ 600000 by omega, show 3000 + 60 * j + 0 + 0 ≤ 7302249 by omega⟩ dL_law_817 (fun r72 f1 H locs hp hz1 hS hfr => ?_)
    clear hIM
    refine hp.elim fun w73 h90 => h90.elim fun w74 h91 => h91.elim fun w75 h92 => h92.elim fun w76 h93 => h93.elim fun w77 h94 => h94.elim fun w78 h95 => h95.elim fun w79 h96 => h96.elim fun w80 h97 => h97.elim fun w81 h98 => h98.elim fun w82 h99 => h99.elim fun w83 h910 => h910.elim fun w84 h911 => h911.elim fun w85 h912 => h912.elim fun w86 h913 => h913.elim fun w87 h914 => h914.elim fun w88 h915 => h915.elim fun w89 h916 => h916.elim fun w90 h917 => h917.elim fun w91 h918 => h918.elim fun w92 h919 => h919.elim fun w93 h920 => h920.elim fun w94 h921 => h921.elim fun w95 h922 => h922.elim fun w96 h923 => h923.elim fun w97 h924 => h924.elim fun w98 h925 => h925.elim fun w99 h926 => h926.elim fun w100 h927 => h927.elim fun w101 h928 => h928.elim fun w102 h929 => ?_
    clear hp h90 h91 h92 h93 h94 h95 h96 h97 h98 h99 h910 h911 h912 h913 h914 h915 h916 h917 h918 h919 h920 h921 h922 h923 h924 h925 h926 h927 h928
    obtain ⟨e103, e104, e105, e106, e107, e108, e109, e110, e111, e112, e113, e114, e115, e116, e117, e118, e119, e120, e121, e122, e123, e124, e125, e126, e127, hIM⟩ := h929
    obtain ⟨hzx, hd⟩ := hfr fX hzx (z_dsym hd)
    replace hd := z_dsym hd
    have hzm := hz1
    clear hz1 hfr
    obtain ⟨fM, hfm9⟩ : ∃ g : zM, g = f1 := ⟨_, rfl⟩
    rw [← hfm9] at hIM hd hzm
    clear hfm9
    refine lv_pop2_2 hx hb dL_law_820 rfl ?_
    refine lv_goto (tgt := 1358) hx hb dL_law_821 (by decide) ?_
    refine W.widen (k := 100 + 10 * (j + 1)) (n := 3000 + 60 * (j + 1)) (show 100 + 10 * j + 0 + 0 ≤ 100 + 10 * (j + 1) by omega) (show 3000 + 60 * j + 0 + 0 ≤ 3000 + 60 * (j + 1) by omega) ?_
    have hPC9 : zPC v13 v19 v20 w86 := by rw [e48, e50, e51, e114]; exact hPC
    have hFF9 : zFF v25 v29 v30 w92 := by rw [e54, e55, e56, e117]; exact hFF
    have hRE9 : zRE v31 v34 v35 v36 v37 w95 := by rw [e57, e58, e59, e60, e61, e121]; exact hRE
    have hKR8 : zKR v38 v39 w97 w98 := by rw [e62, e63, e124, e125]; exact hKR
    exact fin _ _ _ (z_LI hIX hIM hzx hzm hd ⟨(e103.trans e42.symm), (e104.trans e43.symm), (e105.trans e44.symm), (e106.trans e45.symm), (e107.trans e46.symm), (e108.trans e47.symm), (e109.trans e48.symm), (e110.trans e49.symm), (e112.trans e52.symm), (e111.trans e50.symm), (e113.trans e53.symm), (e115.trans e54.symm), (e116.trans e55.symm), (e118.trans e57.symm), (e119.trans e58.symm), (e120.trans e59.symm), (e122.trans e60.symm), (e127.trans e65.symm), (e123.trans e62.symm), (e126.trans e64.symm), hPC9, hFF9, hRE9, hKR8⟩) hS (lv_sub hl [0, 1, 2, 3] rfl)
  · refine lv_iconst (v := 1) hx hb dL_law_789 (by decide) ?_
    refine lv_goto (tgt := 794) hx hb dL_law_790 (by decide) ?_
    refine z_callVl2 (As := [.int (xs (5 * j + 1)), .int 1]) C hzx hS hA hl (k_X7_weight l D cy fX o fa fi nu fm co en ke ev al ra kn vq ge ea ma m_u1 m_u2 m_u3 m_gv m_nl m_gu m_nn ga gr fg pt m_gk m_ln pp wg m_gw m_gh bf m_nf gf fq fk m_fz fc m_nc gc cn m_ge1 m_gn1 m_sq mb m_ks kk m_gx3 m_lk (xs (5 * j + 1)) (1 : Int32)  hIX) zyX7_weight mML_82 hIX.1 zl7 rfl rfl (Nat.le_of_ble_eq_true rfl) ⟨Nat.le_of_ble_eq_true rfl, Nat.le_of_ble_eq_true rfl⟩ ⟨show 100 + 10 * j + 0 ≤ 600000 by omega, show 3000 + 60 * j + 0 ≤ 7302249 by omega⟩ dL_law_794 (fun r128 f1 H locs hp hz1 hS hfr => ?_)
    clear hIX
    refine hp.elim fun v129 h90 => h90.elim fun v130 h91 => h91.elim fun v131 h92 => h92.elim fun v132 h93 => h93.elim fun v133 h94 => h94.elim fun v134 h95 => h95.elim fun v135 h96 => h96.elim fun v136 h97 => h97.elim fun v137 h98 => h98.elim fun v138 h99 => h99.elim fun v139 h910 => h910.elim fun v140 h911 => h911.elim fun v141 h912 => h912.elim fun v142 h913 => h913.elim fun v143 h914 => h914.elim fun v144 h915 => h915.elim fun v145 h916 => h916.elim fun v146 h917 => h917.elim fun v147 h918 => h918.elim fun v148 h919 => h919.elim fun v149 h920 => h920.elim fun v150 h921 => h921.elim fun v151 h922 => h922.elim fun v152 h923 => h923.elim fun v153 h924 => h924.elim fun v154 h925 => h925.elim fun v155 h926 => h926.elim fun v156 h927 => h927.elim fun v157 h928 => h928.elim fun v158 h929 => h929.elim fun v159 h930 => h930.elim fun v160 h931 => h931.elim fun v161 h932 => h932.elim fun v162 h933 => h933.elim fun v163 h934 => ?_
    clear hp h90 h91 h92 h93 h94 h95 h96 h97 h98 h99 h910 h911 h912 h913 h914 h915 h916 h917 h918 h919 h920 h921 h922 h923 h924 h925 h926 h927 h928 h929 h930 h931 h932 h933
    obtain ⟨e164, e165, e166, e167, e168, e169, e170, e171, e172, e173, e174, e175, e176, e177, e178, e179, e180, e181, e182, e183, e184, e185, e186, e187, hIX⟩ := h934
    obtain ⟨hzm, hd⟩ := hfr fM hzm hd
    have hzx := hz1
    clear hz1 hfr
    obtain ⟨fX, hfx9⟩ : ∃ g : zM, g = f1 := ⟨_, rfl⟩
    rw [← hfx9] at hIX hd hzx
    clear hfx9
    refine lv_pop2_2 hx hb dL_law_797 rfl ?_
    refine lv_aload_n hx hb dL_law_798 rfl (lv_at hl 2 rfl) ?_
    refine lv_aload_n hx hb dL_law_799 rfl (lv_at hl 0 rfl) ?_
    refine lv_iload_n hx hb dL_law_800 rfl (lv_at hl 3 rfl) ?_
    refine lv_iconst (v := 1) hx hb dL_law_801 (by decide) ?_
    refine lv_iadd hx hb dL_law_802 ?_
    refine lv_topi (fun y188 e189 => ?_)
    obtain rfl : y188 = nI (5 * j + 1) := e189.trans (nI_add (5 * j) 1)
    refine z_sld (5 * j + 1) hx hb hXs hbl hbA hS rfl (by omega) (by omega) dL_law_803 ?_
    refine lv_aload_n hx hb dL_law_804 rfl (lv_at hl 0 rfl) ?_
    refine lv_iload_n hx hb dL_law_805 rfl (lv_at hl 3 rfl) ?_
    refine lv_iconst (v := 2) hx hb dL_law_806 (by decide) ?_
    refine lv_iadd hx hb dL_law_807 ?_
    refine lv_topi (fun y190 e191 => ?_)
    obtain rfl : y190 = nI (5 * j + 2) := e191.trans (nI_add (5 * j) 2)
    refine z_sld (5 * j + 2) hx hb hXs hbl hbA hS rfl (by omega) (by omega) dL_law_808 ?_
    refine lv_if_eq (tgt := 816) hx hb dL_law_809 (by decide) (fun c193 => ?_) (fun c193 => ?_)
    · exact absurd c193 c5
    refine lv_iconst (v := 1) hx hb dL_law_812 (by decide) ?_
    refine lv_goto (tgt := 817) hx hb dL_law_813 (by decide) ?_
    refine z_callVl2 (As := [.int (xs (5 * j + 1)), .int 1]) C hzm hS hA hl (k_X8_weight l D cy fM mo m_wev m_wnb m_wki m_wmy m_wce m_wiw m_wli m_wha m_wwt m_wfy m_wfk m_wem m_wna m_wpl m_whs m_wk1 m_wk2 m_wk3 m_u1 m_u2 m_u3 m_nl m_nn m_nf m_nc m_lk m_ks m_gv m_gu m_gk m_gm m_gc m_gw m_gl m_gh m_gt m_gy m_gq m_ge1 m_gn1 m_gp1 m_gs m_gx1 m_gx2 m_gx3 m_ln m_fz m_sq (xs (5 * j + 1)) (1 : Int32)  hIM) zyX8_weight mML_86 hIM.1 zl8 rfl rfl (Nat.le_of_ble_eq_true rfl) ⟨Nat.le_of_ble_eq_true rfl, Nat.le_of_ble_eq_true rfl⟩ ⟨show 100 + 10 * j + 0 + 0 ≤ 600000 by omega, show 3000 + 60 * j + 0 + 0 ≤ 7302249 by omega⟩ dL_law_817 (fun r194 f1 H locs hp hz1 hS hfr => ?_)
    clear hIM
    refine hp.elim fun w195 h90 => h90.elim fun w196 h91 => h91.elim fun w197 h92 => h92.elim fun w198 h93 => h93.elim fun w199 h94 => h94.elim fun w200 h95 => h95.elim fun w201 h96 => h96.elim fun w202 h97 => h97.elim fun w203 h98 => h98.elim fun w204 h99 => h99.elim fun w205 h910 => h910.elim fun w206 h911 => h911.elim fun w207 h912 => h912.elim fun w208 h913 => h913.elim fun w209 h914 => h914.elim fun w210 h915 => h915.elim fun w211 h916 => h916.elim fun w212 h917 => h917.elim fun w213 h918 => h918.elim fun w214 h919 => h919.elim fun w215 h920 => h920.elim fun w216 h921 => h921.elim fun w217 h922 => h922.elim fun w218 h923 => h923.elim fun w219 h924 => h924.elim fun w220 h925 => h925.elim fun w221 h926 => h926.elim fun w222 h927 => h927.elim fun w223 h928 => h928.elim fun w224 h929 => ?_
    clear hp h90 h91 h92 h93 h94 h95 h96 h97 h98 h99 h910 h911 h912 h913 h914 h915 h916 h917 h918 h919 h920 h921 h922 h923 h924 h925 h926 h927 h928
    obtain ⟨e225, e226, e227, e228, e229, e230, e231, e232, e233, e234, e235, e236, e237, e238, e239, e240, e241, e242, e243, e244, e245, e246, e247, e248, e249, hIM⟩ := h929
    obtain ⟨hzx, hd⟩ := hfr fX hzx (z_dsym hd)
    replace hd := z_dsym hd
    have hzm := hz1
    clear hz1 hfr
    obtain ⟨fM, hfm9⟩ : ∃ g : zM, g = f1 := ⟨_, rfl⟩
    rw [← hfm9] at hIM hd hzm
    clear hfm9
    refine lv_pop2_2 hx hb dL_law_820 rfl ?_
    refine lv_goto (tgt := 1358) hx hb dL_law_821 (by decide) ?_
    refine W.widen (k := 100 + 10 * (j + 1)) (n := 3000 + 60 * (j + 1)) (show 100 + 10 * j + 0 + 0 ≤ 100 + 10 * (j + 1) by omega) (show 3000 + 60 * j + 0 + 0 ≤ 3000 + 60 * (j + 1) by omega) ?_
    have hPC9 : zPC v135 v141 v142 w208 := by rw [e170, e172, e173, e236]; exact hPC
    have hFF9 : zFF v147 v151 v152 w214 := by rw [e176, e177, e178, e239]; exact hFF
    have hRE9 : zRE v153 v156 v157 v158 v159 w217 := by rw [e179, e180, e181, e182, e183, e243]; exact hRE
    have hKR8 : zKR v160 v161 w219 w220 := by rw [e184, e185, e246, e247]; exact hKR
    exact fin _ _ _ (z_LI hIX hIM hzx hzm hd ⟨(e225.trans e164.symm), (e226.trans e165.symm), (e227.trans e166.symm), (e228.trans e167.symm), (e229.trans e168.symm), (e230.trans e169.symm), (e231.trans e170.symm), (e232.trans e171.symm), (e234.trans e174.symm), (e233.trans e172.symm), (e235.trans e175.symm), (e237.trans e176.symm), (e238.trans e177.symm), (e240.trans e179.symm), (e241.trans e180.symm), (e242.trans e181.symm), (e244.trans e182.symm), (e249.trans e187.symm), (e245.trans e184.symm), (e248.trans e186.symm), hPC9, hFF9, hRE9, hKR8⟩) hS (lv_sub hl [0, 1, 2, 3] rfl)
set_option maxHeartbeats 4000000 in
set_option maxRecDepth 100000 in
theorem law_case_16 {p : Program} {l : Launch} {e : Env} {s : State} {m : MethodId} {below : List Frame} {meth : Method} {c : Code} {D : va_G} {cy : Nat → ClassId} {b L : Nat} {xs : Nat → Int32} {o mo j : Nat} (C : zC D cy p s m #[Value.ref b] meth c RL cL_law 4) (hXs : va_X b L xs s s.heap) (hbl : b < s.heap.size) (hbA : ¬ zLA s b) (hL : L ≤ 2560) (hj : 5 * j + 5 ≤ L) (fin : ∀ (H : Heap) (locs : List Loc) (ls : Array Slot), zLI D cy s o mo H → va_S (zLA s) s.heap H locs → lv_has ls 4 [(0, .ref b), (1, .ref o), (2, .ref mo), (3, .int (nI (5 * j)))] → W p l e room_1 s m #[Value.ref b] below meth c H locs (100 + 10 * (j + 1)) (3000 + 60 * (j + 1)) (lw_Z below #[Value.ref b] s) (F0 m 1358 ls [])) {H : Heap} {locs : List Loc} {ls : Array Slot} (hLI : zLI D cy s o mo H) (hS : va_S (zLA s) s.heap H locs) (hl : lv_has ls 4 [(0, .ref b), (1, .ref o), (2, .ref mo), (3, .int (nI (5 * j)))]) : W p l e room_1 s m #[Value.ref b] below meth c H locs (100 + 10 * j) (3000 + 60 * j) (lw_Z below #[Value.ref b] s) (F0 m 824 ls []) := by
  have hx := C.1
  have hb := C.2.1
  have hA : ∀ q, s.heap.size ≤ q → zLA s q := fun q h => h
  refine Exists.elim hLI fun fX h90 => h90.elim fun fM h91 => h91.elim fun fa h92 => h92.elim fun fi h93 => h93.elim fun nu h94 => h94.elim fun fm h95 => h95.elim fun co h96 => h96.elim fun en h97 => h97.elim fun ke h98 => h98.elim fun ev h99 => h99.elim fun al h910 => h910.elim fun ra h911 => h911.elim fun kn h912 => h912.elim fun vq h913 => h913.elim fun ge h914 => h914.elim fun ea h915 => h915.elim fun ma h916 => h916.elim fun u1 h917 => h917.elim fun u2 h918 => h918.elim fun u3 h919 => h919.elim fun gv h920 => h920.elim fun nl h921 => h921.elim fun gu h922 => h922.elim fun nn h923 => h923.elim fun ga h924 => h924.elim fun gr h925 => h925.elim fun fg h926 => h926.elim fun pt h927 => h927.elim fun kd h928 => h928.elim fun ln h929 => h929.elim fun pp h930 => h930.elim fun wg h931 => h931.elim fun wd h932 => h932.elim fun hs h933 => h933.elim fun bf h934 => h934.elim fun nf h935 => h935.elim fun gf h936 => h936.elim fun fq h937 => h937.elim fun fk h938 => h938.elim fun fz h939 => h939.elim fun fc h940 => h940.elim fun nc h941 => h941.elim fun gc h942 => h942.elim fun cn h943 => h943.elim fun ce h944 => h944.elim fun cm h945 => h945.elim fun sq h946 => h946.elim fun mb h947 => h947.elim fun ks h948 => h948.elim fun kk h949 => h949.elim fun kv h950 => h950.elim fun lk h951 => h951.elim fun m_wev h952 => h952.elim fun m_wnb h953 => h953.elim fun m_wki h954 => h954.elim fun m_wmy h955 => h955.elim fun m_wce h956 => h956.elim fun m_wiw h957 => h957.elim fun m_wli h958 => h958.elim fun m_wha h959 => h959.elim fun m_wwt h960 => h960.elim fun m_wfy h961 => h961.elim fun m_wfk h962 => h962.elim fun m_wem h963 => h963.elim fun m_wna h964 => h964.elim fun m_wpl h965 => h965.elim fun m_whs h966 => h966.elim fun m_wk1 h967 => h967.elim fun m_wk2 h968 => h968.elim fun m_wk3 h969 => h969.elim fun m_u1 h970 => h970.elim fun m_u2 h971 => h971.elim fun m_u3 h972 => h972.elim fun m_nl h973 => h973.elim fun m_nn h974 => h974.elim fun m_nf h975 => h975.elim fun m_nc h976 => h976.elim fun m_lk h977 => h977.elim fun m_ks h978 => h978.elim fun m_gv h979 => h979.elim fun m_gu h980 => h980.elim fun m_gk h981 => h981.elim fun m_gm h982 => h982.elim fun m_gc h983 => h983.elim fun m_gw h984 => h984.elim fun m_gl h985 => h985.elim fun m_gh h986 => h986.elim fun m_gt h987 => h987.elim fun m_gy h988 => h988.elim fun m_gq h989 => h989.elim fun m_ge1 h990 => h990.elim fun m_gn1 h991 => h991.elim fun m_gp1 h992 => h992.elim fun m_gs h993 => h993.elim fun m_gx1 h994 => h994.elim fun m_gx2 h995 => h995.elim fun m_gx3 h996 => h996.elim fun m_ln h997 => h997.elim fun m_fz h998 => h998.elim fun m_sq h999 => ?_
  clear hLI h90 h91 h92 h93 h94 h95 h96 h97 h98 h99 h910 h911 h912 h913 h914 h915 h916 h917 h918 h919 h920 h921 h922 h923 h924 h925 h926 h927 h928 h929 h930 h931 h932 h933 h934 h935 h936 h937 h938 h939 h940 h941 h942 h943 h944 h945 h946 h947 h948 h949 h950 h951 h952 h953 h954 h955 h956 h957 h958 h959 h960 h961 h962 h963 h964 h965 h966 h967 h968 h969 h970 h971 h972 h973 h974 h975 h976 h977 h978 h979 h980 h981 h982 h983 h984 h985 h986 h987 h988 h989 h990 h991 h992 h993 h994 h995 h996 h997 h998
  obtain ⟨hIX, hIM, hzx, hzm, hd, rfl, rfl, rfl, rfl, rfl, rfl, rfl, rfl, rfl, rfl, rfl, rfl, rfl, rfl, rfl, rfl, rfl, rfl, rfl, rfl, hPC, hFF, hRE, hKR⟩ := h999
  have hl15 := zIM_ln hIM
  have hfz4 := zIM_fz hIM
  have hn60 := zIM_n60 hIM
  have hf60 := zIM_f60 hIM
  have hc60 := zIM_c60 hIM
  have hs40 := zIM_s40 hIM
  refine lv_aload_n hx hb dL_law_824 rfl (lv_at hl 1 rfl) ?_
  refine lv_aload_n hx hb dL_law_825 rfl (lv_at hl 0 rfl) ?_
  refine lv_iload_n hx hb dL_law_826 rfl (lv_at hl 3 rfl) ?_
  refine lv_iconst (v := 1) hx hb dL_law_827 (by decide) ?_
  refine lv_iadd hx hb dL_law_828 ?_
  refine lv_topi (fun y1 e2 => ?_)
  obtain rfl : y1 = nI (5 * j + 1) := e2.trans (nI_add (5 * j) 1)
  refine z_sld (5 * j + 1) hx hb hXs hbl hbA hS rfl (by omega) (by omega) dL_law_829 ?_
  refine lv_aload_n hx hb dL_law_830 rfl (lv_at hl 0 rfl) ?_
  refine lv_iload_n hx hb dL_law_831 rfl (lv_at hl 3 rfl) ?_
  refine lv_iconst (v := 2) hx hb dL_law_832 (by decide) ?_
  refine lv_iadd hx hb dL_law_833 ?_
  refine lv_topi (fun y3 e4 => ?_)
  obtain rfl : y3 = nI (5 * j + 2) := e4.trans (nI_add (5 * j) 2)
  refine z_sld (5 * j + 2) hx hb hXs hbl hbA hS rfl (by omega) (by omega) dL_law_834 ?_
  refine z_callVi2 (As := [.int (xs (5 * j + 1)), .int (xs (5 * j + 2))]) C hzx hS hA hl (k_X7_equal l D cy fX o fa fi nu fm co en ke ev al ra kn vq ge ea ma m_u1 m_u2 m_u3 m_gv m_nl m_gu m_nn ga gr fg pt m_gk m_ln pp wg m_gw m_gh bf m_nf gf fq fk m_fz fc m_nc gc cn m_ge1 m_gn1 m_sq mb m_ks kk m_gx3 m_lk (xs (5 * j + 1)) (xs (5 * j + 2))  hIX) zyX7_equal mML_87 hIX.1 zl7 rfl rfl (Nat.le_of_ble_eq_true rfl) ⟨Nat.le_of_ble_eq_true rfl, Nat.le_of_ble_eq_true rfl⟩ ⟨show 100 + 10 * j + 0 ≤ 600000 by omega, show 3000 + 60 * j + 0 ≤ 7302249 by omega⟩ dL_law_835 (fun r5 f1 H locs hp hz1 hS hfr => ?_)
  clear hIX
  refine hp.elim fun v6 h90 => h90.elim fun v7 h91 => h91.elim fun v8 h92 => h92.elim fun v9 h93 => h93.elim fun v10 h94 => h94.elim fun v11 h95 => h95.elim fun v12 h96 => h96.elim fun v13 h97 => h97.elim fun v14 h98 => h98.elim fun v15 h99 => h99.elim fun v16 h910 => h910.elim fun v17 h911 => h911.elim fun v18 h912 => h912.elim fun v19 h913 => h913.elim fun v20 h914 => h914.elim fun v21 h915 => h915.elim fun v22 h916 => h916.elim fun v23 h917 => h917.elim fun v24 h918 => h918.elim fun v25 h919 => h919.elim fun v26 h920 => h920.elim fun v27 h921 => h921.elim fun v28 h922 => h922.elim fun v29 h923 => h923.elim fun v30 h924 => h924.elim fun v31 h925 => h925.elim fun v32 h926 => h926.elim fun v33 h927 => h927.elim fun v34 h928 => h928.elim fun v35 h929 => h929.elim fun v36 h930 => h930.elim fun v37 h931 => h931.elim fun v38 h932 => h932.elim fun v39 h933 => h933.elim fun v40 h934 => ?_
  clear hp h90 h91 h92 h93 h94 h95 h96 h97 h98 h99 h910 h911 h912 h913 h914 h915 h916 h917 h918 h919 h920 h921 h922 h923 h924 h925 h926 h927 h928 h929 h930 h931 h932 h933
  obtain ⟨e41, e42, e43, e44, e45, e46, e47, e48, e49, e50, e51, e52, e53, e54, e55, e56, e57, e58, e59, e60, e61, e62, e63, e64, hIX⟩ := h934
  obtain ⟨hzm, hd⟩ := hfr fM hzm hd
  have hzx := hz1
  clear hz1 hfr
  obtain ⟨fX, hfx9⟩ : ∃ g : zM, g = f1 := ⟨_, rfl⟩
  rw [← hfx9] at hIX hd hzx
  clear hfx9
  refine lv_pop hx hb dL_law_838 rfl ?_
  refine lv_aload_n hx hb dL_law_839 rfl (lv_at hl 2 rfl) ?_
  refine lv_aload_n hx hb dL_law_840 rfl (lv_at hl 0 rfl) ?_
  refine lv_iload_n hx hb dL_law_841 rfl (lv_at hl 3 rfl) ?_
  refine lv_iconst (v := 1) hx hb dL_law_842 (by decide) ?_
  refine lv_iadd hx hb dL_law_843 ?_
  refine lv_topi (fun y65 e66 => ?_)
  obtain rfl : y65 = nI (5 * j + 1) := e66.trans (nI_add (5 * j) 1)
  refine z_sld (5 * j + 1) hx hb hXs hbl hbA hS rfl (by omega) (by omega) dL_law_844 ?_
  refine lv_aload_n hx hb dL_law_845 rfl (lv_at hl 0 rfl) ?_
  refine lv_iload_n hx hb dL_law_846 rfl (lv_at hl 3 rfl) ?_
  refine lv_iconst (v := 2) hx hb dL_law_847 (by decide) ?_
  refine lv_iadd hx hb dL_law_848 ?_
  refine lv_topi (fun y67 e68 => ?_)
  obtain rfl : y67 = nI (5 * j + 2) := e68.trans (nI_add (5 * j) 2)
  refine z_sld (5 * j + 2) hx hb hXs hbl hbA hS rfl (by omega) (by omega) dL_law_849 ?_
  refine z_callVi2 (As := [.int (xs (5 * j + 1)), .int (xs (5 * j + 2))]) C hzm hS hA hl (k_X8_equal l D cy fM mo m_wev m_wnb m_wki m_wmy m_wce m_wiw m_wli m_wha m_wwt m_wfy m_wfk m_wem m_wna m_wpl m_whs m_wk1 m_wk2 m_wk3 m_u1 m_u2 m_u3 m_nl m_nn m_nf m_nc m_lk m_ks m_gv m_gu m_gk m_gm m_gc m_gw m_gl m_gh m_gt m_gy m_gq m_ge1 m_gn1 m_gp1 m_gs m_gx1 m_gx2 m_gx3 m_ln m_fz m_sq (xs (5 * j + 1)) (xs (5 * j + 2))  hIM) zyX8_equal mML_90 hIM.1 zl8 rfl rfl (Nat.le_of_ble_eq_true rfl) ⟨Nat.le_of_ble_eq_true rfl, Nat.le_of_ble_eq_true rfl⟩ ⟨show 100 + 10 * j + 0 + 0 ≤ 600000 by omega, show 3000 + 60 * j + 0 + 0 ≤ 7302249 by omega⟩ dL_law_850 (fun r69 f1 H locs hp hz1 hS hfr => ?_)
  clear hIM
  refine hp.elim fun w70 h90 => h90.elim fun w71 h91 => h91.elim fun w72 h92 => h92.elim fun w73 h93 => h93.elim fun w74 h94 => h94.elim fun w75 h95 => h95.elim fun w76 h96 => h96.elim fun w77 h97 => h97.elim fun w78 h98 => h98.elim fun w79 h99 => h99.elim fun w80 h910 => h910.elim fun w81 h911 => h911.elim fun w82 h912 => h912.elim fun w83 h913 => h913.elim fun w84 h914 => h914.elim fun w85 h915 => h915.elim fun w86 h916 => h916.elim fun w87 h917 => h917.elim fun w88 h918 => h918.elim fun w89 h919 => h919.elim fun w90 h920 => h920.elim fun w91 h921 => h921.elim fun w92 h922 => h922.elim fun w93 h923 => h923.elim fun w94 h924 => h924.elim fun w95 h925 => h925.elim fun w96 h926 => h926.elim fun w97 h927 => h927.elim fun w98 h928 => h928.elim fun w99 h929 => ?_
  clear hp h90 h91 h92 h93 h94 h95 h96 h97 h98 h99 h910 h911 h912 h913 h914 h915 h916 h917 h918 h919 h920 h921 h922 h923 h924 h925 h926 h927 h928
  obtain ⟨e100, e101, e102, e103, e104, e105, e106, e107, e108, e109, e110, e111, e112, e113, e114, e115, e116, e117, e118, e119, e120, e121, e122, e123, e124, hIM⟩ := h929
  obtain ⟨hzx, hd⟩ := hfr fX hzx (z_dsym hd)
  replace hd := z_dsym hd
  have hzm := hz1
  clear hz1 hfr
  obtain ⟨fM, hfm9⟩ : ∃ g : zM, g = f1 := ⟨_, rfl⟩
  rw [← hfm9] at hIM hd hzm
  clear hfm9
  refine lv_pop hx hb dL_law_853 rfl ?_
  refine lv_goto (tgt := 1358) hx hb dL_law_854 (by decide) ?_
  refine W.widen (k := 100 + 10 * (j + 1)) (n := 3000 + 60 * (j + 1)) (show 100 + 10 * j + 0 + 0 ≤ 100 + 10 * (j + 1) by omega) (show 3000 + 60 * j + 0 + 0 ≤ 3000 + 60 * (j + 1) by omega) ?_
  have hPC9 : zPC v12 v18 v19 w83 := by rw [e47, e49, e50, e111]; exact hPC
  have hFF9 : zFF v24 v28 v29 w89 := by rw [e53, e54, e55, e114]; exact hFF
  have hRE9 : zRE v30 v33 v34 v35 v36 w92 := by rw [e56, e57, e58, e59, e60, e118]; exact hRE
  have hKR8 : zKR v37 v38 w94 w95 := by rw [e61, e62, e121, e122]; exact hKR
  exact fin _ _ _ (z_LI hIX hIM hzx hzm hd ⟨(e100.trans e41.symm), (e101.trans e42.symm), (e102.trans e43.symm), (e103.trans e44.symm), (e104.trans e45.symm), (e105.trans e46.symm), (e106.trans e47.symm), (e107.trans e48.symm), (e109.trans e51.symm), (e108.trans e49.symm), (e110.trans e52.symm), (e112.trans e53.symm), (e113.trans e54.symm), (e115.trans e56.symm), (e116.trans e57.symm), (e117.trans e58.symm), (e119.trans e59.symm), (e124.trans e64.symm), (e120.trans e61.symm), (e123.trans e63.symm), hPC9, hFF9, hRE9, hKR8⟩) hS (lv_sub hl [0, 1, 2, 3] rfl)
set_option maxHeartbeats 4000000 in
set_option maxRecDepth 100000 in
theorem law_case_17 {p : Program} {l : Launch} {e : Env} {s : State} {m : MethodId} {below : List Frame} {meth : Method} {c : Code} {D : va_G} {cy : Nat → ClassId} {b L : Nat} {xs : Nat → Int32} {o mo j : Nat} (C : zC D cy p s m #[Value.ref b] meth c RL cL_law 4) (hXs : va_X b L xs s s.heap) (hbl : b < s.heap.size) (hbA : ¬ zLA s b) (hL : L ≤ 2560) (hj : 5 * j + 5 ≤ L) (fin : ∀ (H : Heap) (locs : List Loc) (ls : Array Slot), zLI D cy s o mo H → va_S (zLA s) s.heap H locs → lv_has ls 4 [(0, .ref b), (1, .ref o), (2, .ref mo), (3, .int (nI (5 * j)))] → W p l e room_1 s m #[Value.ref b] below meth c H locs (100 + 10 * (j + 1)) (3000 + 60 * (j + 1)) (lw_Z below #[Value.ref b] s) (F0 m 1358 ls [])) {H : Heap} {locs : List Loc} {ls : Array Slot} (hLI : zLI D cy s o mo H) (hS : va_S (zLA s) s.heap H locs) (hl : lv_has ls 4 [(0, .ref b), (1, .ref o), (2, .ref mo), (3, .int (nI (5 * j)))]) : W p l e room_1 s m #[Value.ref b] below meth c H locs (100 + 10 * j) (3000 + 60 * j) (lw_Z below #[Value.ref b] s) (F0 m 857 ls []) := by
  have hx := C.1
  have hb := C.2.1
  have hA : ∀ q, s.heap.size ≤ q → zLA s q := fun q h => h
  refine Exists.elim hLI fun fX h90 => h90.elim fun fM h91 => h91.elim fun fa h92 => h92.elim fun fi h93 => h93.elim fun nu h94 => h94.elim fun fm h95 => h95.elim fun co h96 => h96.elim fun en h97 => h97.elim fun ke h98 => h98.elim fun ev h99 => h99.elim fun al h910 => h910.elim fun ra h911 => h911.elim fun kn h912 => h912.elim fun vq h913 => h913.elim fun ge h914 => h914.elim fun ea h915 => h915.elim fun ma h916 => h916.elim fun u1 h917 => h917.elim fun u2 h918 => h918.elim fun u3 h919 => h919.elim fun gv h920 => h920.elim fun nl h921 => h921.elim fun gu h922 => h922.elim fun nn h923 => h923.elim fun ga h924 => h924.elim fun gr h925 => h925.elim fun fg h926 => h926.elim fun pt h927 => h927.elim fun kd h928 => h928.elim fun ln h929 => h929.elim fun pp h930 => h930.elim fun wg h931 => h931.elim fun wd h932 => h932.elim fun hs h933 => h933.elim fun bf h934 => h934.elim fun nf h935 => h935.elim fun gf h936 => h936.elim fun fq h937 => h937.elim fun fk h938 => h938.elim fun fz h939 => h939.elim fun fc h940 => h940.elim fun nc h941 => h941.elim fun gc h942 => h942.elim fun cn h943 => h943.elim fun ce h944 => h944.elim fun cm h945 => h945.elim fun sq h946 => h946.elim fun mb h947 => h947.elim fun ks h948 => h948.elim fun kk h949 => h949.elim fun kv h950 => h950.elim fun lk h951 => h951.elim fun m_wev h952 => h952.elim fun m_wnb h953 => h953.elim fun m_wki h954 => h954.elim fun m_wmy h955 => h955.elim fun m_wce h956 => h956.elim fun m_wiw h957 => h957.elim fun m_wli h958 => h958.elim fun m_wha h959 => h959.elim fun m_wwt h960 => h960.elim fun m_wfy h961 => h961.elim fun m_wfk h962 => h962.elim fun m_wem h963 => h963.elim fun m_wna h964 => h964.elim fun m_wpl h965 => h965.elim fun m_whs h966 => h966.elim fun m_wk1 h967 => h967.elim fun m_wk2 h968 => h968.elim fun m_wk3 h969 => h969.elim fun m_u1 h970 => h970.elim fun m_u2 h971 => h971.elim fun m_u3 h972 => h972.elim fun m_nl h973 => h973.elim fun m_nn h974 => h974.elim fun m_nf h975 => h975.elim fun m_nc h976 => h976.elim fun m_lk h977 => h977.elim fun m_ks h978 => h978.elim fun m_gv h979 => h979.elim fun m_gu h980 => h980.elim fun m_gk h981 => h981.elim fun m_gm h982 => h982.elim fun m_gc h983 => h983.elim fun m_gw h984 => h984.elim fun m_gl h985 => h985.elim fun m_gh h986 => h986.elim fun m_gt h987 => h987.elim fun m_gy h988 => h988.elim fun m_gq h989 => h989.elim fun m_ge1 h990 => h990.elim fun m_gn1 h991 => h991.elim fun m_gp1 h992 => h992.elim fun m_gs h993 => h993.elim fun m_gx1 h994 => h994.elim fun m_gx2 h995 => h995.elim fun m_gx3 h996 => h996.elim fun m_ln h997 => h997.elim fun m_fz h998 => h998.elim fun m_sq h999 => ?_
  clear hLI h90 h91 h92 h93 h94 h95 h96 h97 h98 h99 h910 h911 h912 h913 h914 h915 h916 h917 h918 h919 h920 h921 h922 h923 h924 h925 h926 h927 h928 h929 h930 h931 h932 h933 h934 h935 h936 h937 h938 h939 h940 h941 h942 h943 h944 h945 h946 h947 h948 h949 h950 h951 h952 h953 h954 h955 h956 h957 h958 h959 h960 h961 h962 h963 h964 h965 h966 h967 h968 h969 h970 h971 h972 h973 h974 h975 h976 h977 h978 h979 h980 h981 h982 h983 h984 h985 h986 h987 h988 h989 h990 h991 h992 h993 h994 h995 h996 h997 h998
  obtain ⟨hIX, hIM, hzx, hzm, hd, rfl, rfl, rfl, rfl, rfl, rfl, rfl, rfl, rfl, rfl, rfl, rfl, rfl, rfl, rfl, rfl, rfl, rfl, rfl, rfl, hPC, hFF, hRE, hKR⟩ := h999
  have hl15 := zIM_ln hIM
  have hfz4 := zIM_fz hIM
  have hn60 := zIM_n60 hIM
  have hf60 := zIM_f60 hIM
  have hc60 := zIM_c60 hIM
  have hs40 := zIM_s40 hIM
  refine lv_aload_n hx hb dL_law_857 rfl (lv_at hl 1 rfl) ?_
  refine lv_aload_n hx hb dL_law_858 rfl (lv_at hl 0 rfl) ?_
  refine lv_iload_n hx hb dL_law_859 rfl (lv_at hl 3 rfl) ?_
  refine lv_iconst (v := 1) hx hb dL_law_860 (by decide) ?_
  refine lv_iadd hx hb dL_law_861 ?_
  refine lv_topi (fun y1 e2 => ?_)
  obtain rfl : y1 = nI (5 * j + 1) := e2.trans (nI_add (5 * j) 1)
  refine z_sld (5 * j + 1) hx hb hXs hbl hbA hS rfl (by omega) (by omega) dL_law_862 ?_
  refine z_callVi2 (As := [.int (xs (5 * j + 1))]) C hzx hS hA hl (k_X7_hash l D cy fX o fa fi nu fm co en ke ev al ra kn vq ge ea ma m_u1 m_u2 m_u3 m_gv m_nl m_gu m_nn ga gr fg pt m_gk m_ln pp wg m_gw m_gh bf m_nf gf fq fk m_fz fc m_nc gc cn m_ge1 m_gn1 m_sq mb m_ks kk m_gx3 m_lk (xs (5 * j + 1))  hIX) zyX7_hash mML_91 hIX.1 zl7 rfl rfl (Nat.le_of_ble_eq_true rfl) ⟨Nat.le_of_ble_eq_true rfl, Nat.le_of_ble_eq_true rfl⟩ ⟨show 100 + 10 * j + 0 ≤ 600000 by omega, show 3000 + 60 * j + 0 ≤ 7302249 by omega⟩ dL_law_863 (fun r f1 H locs hp hz1 hS hfr => ?_)
  clear hIX
  refine hp.elim fun v3 h90 => h90.elim fun v4 h91 => h91.elim fun v5 h92 => h92.elim fun v6 h93 => h93.elim fun v7 h94 => h94.elim fun v8 h95 => h95.elim fun v9 h96 => h96.elim fun v10 h97 => h97.elim fun v11 h98 => h98.elim fun v12 h99 => h99.elim fun v13 h910 => h910.elim fun v14 h911 => h911.elim fun v15 h912 => h912.elim fun v16 h913 => h913.elim fun v17 h914 => h914.elim fun v18 h915 => h915.elim fun v19 h916 => h916.elim fun v20 h917 => h917.elim fun v21 h918 => h918.elim fun v22 h919 => h919.elim fun v23 h920 => h920.elim fun v24 h921 => h921.elim fun v25 h922 => h922.elim fun v26 h923 => h923.elim fun v27 h924 => h924.elim fun v28 h925 => h925.elim fun v29 h926 => h926.elim fun v30 h927 => h927.elim fun v31 h928 => h928.elim fun v32 h929 => h929.elim fun v33 h930 => h930.elim fun v34 h931 => h931.elim fun v35 h932 => h932.elim fun v36 h933 => h933.elim fun v37 h934 => ?_
  clear hp h90 h91 h92 h93 h94 h95 h96 h97 h98 h99 h910 h911 h912 h913 h914 h915 h916 h917 h918 h919 h920 h921 h922 h923 h924 h925 h926 h927 h928 h929 h930 h931 h932 h933
  obtain ⟨rfl, e38, e39, e40, e41, e42, e43, e44, e45, e46, e47, e48, e49, e50, e51, e52, e53, e54, e55, e56, e57, e58, e59, e60, e61, hIX⟩ := h934
  obtain ⟨hzm, hd⟩ := hfr fM hzm hd
  have hzx := hz1
  clear hz1 hfr
  obtain ⟨fX, hfx9⟩ : ∃ g : zM, g = f1 := ⟨_, rfl⟩
  rw [← hfx9] at hIX hd hzx
  clear hfx9
  refine lv_pop hx hb dL_law_866 rfl ?_
  refine lv_aload_n hx hb dL_law_867 rfl (lv_at hl 2 rfl) ?_
  refine lv_aload_n hx hb dL_law_868 rfl (lv_at hl 0 rfl) ?_
  refine lv_iload_n hx hb dL_law_869 rfl (lv_at hl 3 rfl) ?_
  refine lv_iconst (v := 1) hx hb dL_law_870 (by decide) ?_
  refine lv_iadd hx hb dL_law_871 ?_
  refine lv_topi (fun y62 e63 => ?_)
  obtain rfl : y62 = nI (5 * j + 1) := e63.trans (nI_add (5 * j) 1)
  refine z_sld (5 * j + 1) hx hb hXs hbl hbA hS rfl (by omega) (by omega) dL_law_872 ?_
  refine z_callVi2 (As := [.int (xs (5 * j + 1))]) C hzm hS hA hl (k_X8_hash l D cy fM mo m_wev m_wnb m_wki m_wmy m_wce m_wiw m_wli m_wha m_wwt m_wfy m_wfk m_wem m_wna m_wpl m_whs m_wk1 m_wk2 m_wk3 m_u1 m_u2 m_u3 m_nl m_nn m_nf m_nc m_lk m_ks m_gv m_gu m_gk m_gm m_gc m_gw m_gl m_gh m_gt m_gy m_gq m_ge1 m_gn1 m_gp1 m_gs m_gx1 m_gx2 m_gx3 m_ln m_fz m_sq (xs (5 * j + 1))  hIM) zyX8_hash mML_94 hIM.1 zl8 rfl rfl (Nat.le_of_ble_eq_true rfl) ⟨Nat.le_of_ble_eq_true rfl, Nat.le_of_ble_eq_true rfl⟩ ⟨show 100 + 10 * j + 0 + 0 ≤ 600000 by omega, show 3000 + 60 * j + 0 + 0 ≤ 7302249 by omega⟩ dL_law_873 (fun r f1 H locs hp hz1 hS hfr => ?_)
  clear hIM
  refine hp.elim fun w64 h90 => h90.elim fun w65 h91 => h91.elim fun w66 h92 => h92.elim fun w67 h93 => h93.elim fun w68 h94 => h94.elim fun w69 h95 => h95.elim fun w70 h96 => h96.elim fun w71 h97 => h97.elim fun w72 h98 => h98.elim fun w73 h99 => h99.elim fun w74 h910 => h910.elim fun w75 h911 => h911.elim fun w76 h912 => h912.elim fun w77 h913 => h913.elim fun w78 h914 => h914.elim fun w79 h915 => h915.elim fun w80 h916 => h916.elim fun w81 h917 => h917.elim fun w82 h918 => h918.elim fun w83 h919 => h919.elim fun w84 h920 => h920.elim fun w85 h921 => h921.elim fun w86 h922 => h922.elim fun w87 h923 => h923.elim fun w88 h924 => h924.elim fun w89 h925 => h925.elim fun w90 h926 => h926.elim fun w91 h927 => h927.elim fun w92 h928 => h928.elim fun w93 h929 => ?_
  clear hp h90 h91 h92 h93 h94 h95 h96 h97 h98 h99 h910 h911 h912 h913 h914 h915 h916 h917 h918 h919 h920 h921 h922 h923 h924 h925 h926 h927 h928
  obtain ⟨rfl, e94, e95, e96, e97, e98, e99, e100, e101, e102, e103, e104, e105, e106, e107, e108, e109, e110, e111, e112, e113, e114, e115, e116, e117, e118, hIM⟩ := h929
  obtain ⟨hzx, hd⟩ := hfr fX hzx (z_dsym hd)
  replace hd := z_dsym hd
  have hzm := hz1
  clear hz1 hfr
  obtain ⟨fM, hfm9⟩ : ∃ g : zM, g = f1 := ⟨_, rfl⟩
  rw [← hfm9] at hIM hd hzm
  clear hfm9
  refine lv_pop hx hb dL_law_876 rfl ?_
  refine lv_goto (tgt := 1358) hx hb dL_law_877 (by decide) ?_
  refine W.widen (k := 100 + 10 * (j + 1)) (n := 3000 + 60 * (j + 1)) (show 100 + 10 * j + 0 + 0 ≤ 100 + 10 * (j + 1) by omega) (show 3000 + 60 * j + 0 + 0 ≤ 3000 + 60 * (j + 1) by omega) ?_
  have hPC9 : zPC v9 v15 v16 w77 := by rw [e44, e46, e47, e105]; exact hPC
  have hFF9 : zFF v21 v25 v26 w83 := by rw [e50, e51, e52, e108]; exact hFF
  have hRE9 : zRE v27 v30 v31 v32 v33 w86 := by rw [e53, e54, e55, e56, e57, e112]; exact hRE
  have hKR8 : zKR v34 v35 w88 w89 := by rw [e58, e59, e115, e116]; exact hKR
  exact fin _ _ _ (z_LI hIX hIM hzx hzm hd ⟨(e94.trans e38.symm), (e95.trans e39.symm), (e96.trans e40.symm), (e97.trans e41.symm), (e98.trans e42.symm), (e99.trans e43.symm), (e100.trans e44.symm), (e101.trans e45.symm), (e103.trans e48.symm), (e102.trans e46.symm), (e104.trans e49.symm), (e106.trans e50.symm), (e107.trans e51.symm), (e109.trans e53.symm), (e110.trans e54.symm), (e111.trans e55.symm), (e113.trans e56.symm), (e118.trans e61.symm), (e114.trans e58.symm), (e117.trans e60.symm), hPC9, hFF9, hRE9, hKR8⟩) hS (lv_sub hl [0, 1, 2, 3] rfl)
set_option maxHeartbeats 4000000 in
set_option maxRecDepth 100000 in
theorem law_case_18 {p : Program} {l : Launch} {e : Env} {s : State} {m : MethodId} {below : List Frame} {meth : Method} {c : Code} {D : va_G} {cy : Nat → ClassId} {b L : Nat} {xs : Nat → Int32} {o mo j : Nat} (C : zC D cy p s m #[Value.ref b] meth c RL cL_law 4) (hXs : va_X b L xs s s.heap) (hbl : b < s.heap.size) (hbA : ¬ zLA s b) (hL : L ≤ 2560) (hj : 5 * j + 5 ≤ L) (fin : ∀ (H : Heap) (locs : List Loc) (ls : Array Slot), zLI D cy s o mo H → va_S (zLA s) s.heap H locs → lv_has ls 4 [(0, .ref b), (1, .ref o), (2, .ref mo), (3, .int (nI (5 * j)))] → W p l e room_1 s m #[Value.ref b] below meth c H locs (100 + 10 * (j + 1)) (3000 + 60 * (j + 1)) (lw_Z below #[Value.ref b] s) (F0 m 1358 ls [])) {H : Heap} {locs : List Loc} {ls : Array Slot} (hLI : zLI D cy s o mo H) (hS : va_S (zLA s) s.heap H locs) (hl : lv_has ls 4 [(0, .ref b), (1, .ref o), (2, .ref mo), (3, .int (nI (5 * j)))]) : W p l e room_1 s m #[Value.ref b] below meth c H locs (100 + 10 * j) (3000 + 60 * j) (lw_Z below #[Value.ref b] s) (F0 m 880 ls []) := by
  have hx := C.1
  have hb := C.2.1
  have hA : ∀ q, s.heap.size ≤ q → zLA s q := fun q h => h
  refine Exists.elim hLI fun fX h90 => h90.elim fun fM h91 => h91.elim fun fa h92 => h92.elim fun fi h93 => h93.elim fun nu h94 => h94.elim fun fm h95 => h95.elim fun co h96 => h96.elim fun en h97 => h97.elim fun ke h98 => h98.elim fun ev h99 => h99.elim fun al h910 => h910.elim fun ra h911 => h911.elim fun kn h912 => h912.elim fun vq h913 => h913.elim fun ge h914 => h914.elim fun ea h915 => h915.elim fun ma h916 => h916.elim fun u1 h917 => h917.elim fun u2 h918 => h918.elim fun u3 h919 => h919.elim fun gv h920 => h920.elim fun nl h921 => h921.elim fun gu h922 => h922.elim fun nn h923 => h923.elim fun ga h924 => h924.elim fun gr h925 => h925.elim fun fg h926 => h926.elim fun pt h927 => h927.elim fun kd h928 => h928.elim fun ln h929 => h929.elim fun pp h930 => h930.elim fun wg h931 => h931.elim fun wd h932 => h932.elim fun hs h933 => h933.elim fun bf h934 => h934.elim fun nf h935 => h935.elim fun gf h936 => h936.elim fun fq h937 => h937.elim fun fk h938 => h938.elim fun fz h939 => h939.elim fun fc h940 => h940.elim fun nc h941 => h941.elim fun gc h942 => h942.elim fun cn h943 => h943.elim fun ce h944 => h944.elim fun cm h945 => h945.elim fun sq h946 => h946.elim fun mb h947 => h947.elim fun ks h948 => h948.elim fun kk h949 => h949.elim fun kv h950 => h950.elim fun lk h951 => h951.elim fun m_wev h952 => h952.elim fun m_wnb h953 => h953.elim fun m_wki h954 => h954.elim fun m_wmy h955 => h955.elim fun m_wce h956 => h956.elim fun m_wiw h957 => h957.elim fun m_wli h958 => h958.elim fun m_wha h959 => h959.elim fun m_wwt h960 => h960.elim fun m_wfy h961 => h961.elim fun m_wfk h962 => h962.elim fun m_wem h963 => h963.elim fun m_wna h964 => h964.elim fun m_wpl h965 => h965.elim fun m_whs h966 => h966.elim fun m_wk1 h967 => h967.elim fun m_wk2 h968 => h968.elim fun m_wk3 h969 => h969.elim fun m_u1 h970 => h970.elim fun m_u2 h971 => h971.elim fun m_u3 h972 => h972.elim fun m_nl h973 => h973.elim fun m_nn h974 => h974.elim fun m_nf h975 => h975.elim fun m_nc h976 => h976.elim fun m_lk h977 => h977.elim fun m_ks h978 => h978.elim fun m_gv h979 => h979.elim fun m_gu h980 => h980.elim fun m_gk h981 => h981.elim fun m_gm h982 => h982.elim fun m_gc h983 => h983.elim fun m_gw h984 => h984.elim fun m_gl h985 => h985.elim fun m_gh h986 => h986.elim fun m_gt h987 => h987.elim fun m_gy h988 => h988.elim fun m_gq h989 => h989.elim fun m_ge1 h990 => h990.elim fun m_gn1 h991 => h991.elim fun m_gp1 h992 => h992.elim fun m_gs h993 => h993.elim fun m_gx1 h994 => h994.elim fun m_gx2 h995 => h995.elim fun m_gx3 h996 => h996.elim fun m_ln h997 => h997.elim fun m_fz h998 => h998.elim fun m_sq h999 => ?_
  clear hLI h90 h91 h92 h93 h94 h95 h96 h97 h98 h99 h910 h911 h912 h913 h914 h915 h916 h917 h918 h919 h920 h921 h922 h923 h924 h925 h926 h927 h928 h929 h930 h931 h932 h933 h934 h935 h936 h937 h938 h939 h940 h941 h942 h943 h944 h945 h946 h947 h948 h949 h950 h951 h952 h953 h954 h955 h956 h957 h958 h959 h960 h961 h962 h963 h964 h965 h966 h967 h968 h969 h970 h971 h972 h973 h974 h975 h976 h977 h978 h979 h980 h981 h982 h983 h984 h985 h986 h987 h988 h989 h990 h991 h992 h993 h994 h995 h996 h997 h998
  obtain ⟨hIX, hIM, hzx, hzm, hd, rfl, rfl, rfl, rfl, rfl, rfl, rfl, rfl, rfl, rfl, rfl, rfl, rfl, rfl, rfl, rfl, rfl, rfl, rfl, rfl, hPC, hFF, hRE, hKR⟩ := h999
  have hl15 := zIM_ln hIM
  have hfz4 := zIM_fz hIM
  have hn60 := zIM_n60 hIM
  have hf60 := zIM_f60 hIM
  have hc60 := zIM_c60 hIM
  have hs40 := zIM_s40 hIM
  refine lv_aload_n hx hb dL_law_880 rfl (lv_at hl 1 rfl) ?_
  refine lv_aload_n hx hb dL_law_881 rfl (lv_at hl 0 rfl) ?_
  refine lv_iload_n hx hb dL_law_882 rfl (lv_at hl 3 rfl) ?_
  refine lv_iconst (v := 1) hx hb dL_law_883 (by decide) ?_
  refine lv_iadd hx hb dL_law_884 ?_
  refine lv_topi (fun y1 e2 => ?_)
  obtain rfl : y1 = nI (5 * j + 1) := e2.trans (nI_add (5 * j) 1)
  refine z_sld (5 * j + 1) hx hb hXs hbl hbA hS rfl (by omega) (by omega) dL_law_885 ?_
  refine lv_aload_n hx hb dL_law_886 rfl (lv_at hl 0 rfl) ?_
  refine lv_iload_n hx hb dL_law_887 rfl (lv_at hl 3 rfl) ?_
  refine lv_iconst (v := 2) hx hb dL_law_888 (by decide) ?_
  refine lv_iadd hx hb dL_law_889 ?_
  refine lv_topi (fun y3 e4 => ?_)
  obtain rfl : y3 = nI (5 * j + 2) := e4.trans (nI_add (5 * j) 2)
  refine z_sld (5 * j + 2) hx hb hXs hbl hbA hS rfl (by omega) (by omega) dL_law_890 ?_
  refine z_callVi2 (As := [.int (xs (5 * j + 1)), .int (xs (5 * j + 2))]) C hzx hS hA hl (k_X7_order l D cy fX o fa fi nu fm co en ke ev al ra kn vq ge ea ma m_u1 m_u2 m_u3 m_gv m_nl m_gu m_nn ga gr fg pt m_gk m_ln pp wg m_gw m_gh bf m_nf gf fq fk m_fz fc m_nc gc cn m_ge1 m_gn1 m_sq mb m_ks kk m_gx3 m_lk (xs (5 * j + 1)) (xs (5 * j + 2))  hIX) zyX7_order mML_95 hIX.1 zl7 rfl rfl (Nat.le_of_ble_eq_true rfl) ⟨Nat.le_of_ble_eq_true rfl, Nat.le_of_ble_eq_true rfl⟩ ⟨show 100 + 10 * j + 0 ≤ 600000 by omega, show 3000 + 60 * j + 0 ≤ 7302249 by omega⟩ dL_law_891 (fun r5 f1 H locs hp hz1 hS hfr => ?_)
  clear hIX
  refine hp.elim fun v6 h90 => h90.elim fun v7 h91 => h91.elim fun v8 h92 => h92.elim fun v9 h93 => h93.elim fun v10 h94 => h94.elim fun v11 h95 => h95.elim fun v12 h96 => h96.elim fun v13 h97 => h97.elim fun v14 h98 => h98.elim fun v15 h99 => h99.elim fun v16 h910 => h910.elim fun v17 h911 => h911.elim fun v18 h912 => h912.elim fun v19 h913 => h913.elim fun v20 h914 => h914.elim fun v21 h915 => h915.elim fun v22 h916 => h916.elim fun v23 h917 => h917.elim fun v24 h918 => h918.elim fun v25 h919 => h919.elim fun v26 h920 => h920.elim fun v27 h921 => h921.elim fun v28 h922 => h922.elim fun v29 h923 => h923.elim fun v30 h924 => h924.elim fun v31 h925 => h925.elim fun v32 h926 => h926.elim fun v33 h927 => h927.elim fun v34 h928 => h928.elim fun v35 h929 => h929.elim fun v36 h930 => h930.elim fun v37 h931 => h931.elim fun v38 h932 => h932.elim fun v39 h933 => h933.elim fun v40 h934 => ?_
  clear hp h90 h91 h92 h93 h94 h95 h96 h97 h98 h99 h910 h911 h912 h913 h914 h915 h916 h917 h918 h919 h920 h921 h922 h923 h924 h925 h926 h927 h928 h929 h930 h931 h932 h933
  obtain ⟨e41, e42, e43, e44, e45, e46, e47, e48, e49, e50, e51, e52, e53, e54, e55, e56, e57, e58, e59, e60, e61, e62, e63, e64, hIX⟩ := h934
  obtain ⟨hzm, hd⟩ := hfr fM hzm hd
  have hzx := hz1
  clear hz1 hfr
  obtain ⟨fX, hfx9⟩ : ∃ g : zM, g = f1 := ⟨_, rfl⟩
  rw [← hfx9] at hIX hd hzx
  clear hfx9
  refine lv_pop hx hb dL_law_894 rfl ?_
  refine lv_aload_n hx hb dL_law_895 rfl (lv_at hl 2 rfl) ?_
  refine lv_aload_n hx hb dL_law_896 rfl (lv_at hl 0 rfl) ?_
  refine lv_iload_n hx hb dL_law_897 rfl (lv_at hl 3 rfl) ?_
  refine lv_iconst (v := 1) hx hb dL_law_898 (by decide) ?_
  refine lv_iadd hx hb dL_law_899 ?_
  refine lv_topi (fun y65 e66 => ?_)
  obtain rfl : y65 = nI (5 * j + 1) := e66.trans (nI_add (5 * j) 1)
  refine z_sld (5 * j + 1) hx hb hXs hbl hbA hS rfl (by omega) (by omega) dL_law_900 ?_
  refine lv_aload_n hx hb dL_law_901 rfl (lv_at hl 0 rfl) ?_
  refine lv_iload_n hx hb dL_law_902 rfl (lv_at hl 3 rfl) ?_
  refine lv_iconst (v := 2) hx hb dL_law_903 (by decide) ?_
  refine lv_iadd hx hb dL_law_904 ?_
  refine lv_topi (fun y67 e68 => ?_)
  obtain rfl : y67 = nI (5 * j + 2) := e68.trans (nI_add (5 * j) 2)
  refine z_sld (5 * j + 2) hx hb hXs hbl hbA hS rfl (by omega) (by omega) dL_law_905 ?_
  refine z_callVi2 (As := [.int (xs (5 * j + 1)), .int (xs (5 * j + 2))]) C hzm hS hA hl (k_X8_order l D cy fM mo m_wev m_wnb m_wki m_wmy m_wce m_wiw m_wli m_wha m_wwt m_wfy m_wfk m_wem m_wna m_wpl m_whs m_wk1 m_wk2 m_wk3 m_u1 m_u2 m_u3 m_nl m_nn m_nf m_nc m_lk m_ks m_gv m_gu m_gk m_gm m_gc m_gw m_gl m_gh m_gt m_gy m_gq m_ge1 m_gn1 m_gp1 m_gs m_gx1 m_gx2 m_gx3 m_ln m_fz m_sq (xs (5 * j + 1)) (xs (5 * j + 2))  hIM) zyX8_order mML_98 hIM.1 zl8 rfl rfl (Nat.le_of_ble_eq_true rfl) ⟨Nat.le_of_ble_eq_true rfl, Nat.le_of_ble_eq_true rfl⟩ ⟨show 100 + 10 * j + 0 + 0 ≤ 600000 by omega, show 3000 + 60 * j + 0 + 0 ≤ 7302249 by omega⟩ dL_law_906 (fun r69 f1 H locs hp hz1 hS hfr => ?_)
  clear hIM
  refine hp.elim fun w70 h90 => h90.elim fun w71 h91 => h91.elim fun w72 h92 => h92.elim fun w73 h93 => h93.elim fun w74 h94 => h94.elim fun w75 h95 => h95.elim fun w76 h96 => h96.elim fun w77 h97 => h97.elim fun w78 h98 => h98.elim fun w79 h99 => h99.elim fun w80 h910 => h910.elim fun w81 h911 => h911.elim fun w82 h912 => h912.elim fun w83 h913 => h913.elim fun w84 h914 => h914.elim fun w85 h915 => h915.elim fun w86 h916 => h916.elim fun w87 h917 => h917.elim fun w88 h918 => h918.elim fun w89 h919 => h919.elim fun w90 h920 => h920.elim fun w91 h921 => h921.elim fun w92 h922 => h922.elim fun w93 h923 => h923.elim fun w94 h924 => h924.elim fun w95 h925 => h925.elim fun w96 h926 => h926.elim fun w97 h927 => h927.elim fun w98 h928 => h928.elim fun w99 h929 => ?_
  clear hp h90 h91 h92 h93 h94 h95 h96 h97 h98 h99 h910 h911 h912 h913 h914 h915 h916 h917 h918 h919 h920 h921 h922 h923 h924 h925 h926 h927 h928
  obtain ⟨e100, e101, e102, e103, e104, e105, e106, e107, e108, e109, e110, e111, e112, e113, e114, e115, e116, e117, e118, e119, e120, e121, e122, e123, e124, hIM⟩ := h929
  obtain ⟨hzx, hd⟩ := hfr fX hzx (z_dsym hd)
  replace hd := z_dsym hd
  have hzm := hz1
  clear hz1 hfr
  obtain ⟨fM, hfm9⟩ : ∃ g : zM, g = f1 := ⟨_, rfl⟩
  rw [← hfm9] at hIM hd hzm
  clear hfm9
  refine lv_pop hx hb dL_law_909 rfl ?_
  refine lv_goto (tgt := 1358) hx hb dL_law_910 (by decide) ?_
  refine W.widen (k := 100 + 10 * (j + 1)) (n := 3000 + 60 * (j + 1)) (show 100 + 10 * j + 0 + 0 ≤ 100 + 10 * (j + 1) by omega) (show 3000 + 60 * j + 0 + 0 ≤ 3000 + 60 * (j + 1) by omega) ?_
  have hPC9 : zPC v12 v18 v19 w83 := by rw [e47, e49, e50, e111]; exact hPC
  have hFF9 : zFF v24 v28 v29 w89 := by rw [e53, e54, e55, e114]; exact hFF
  have hRE9 : zRE v30 v33 v34 v35 v36 w92 := by rw [e56, e57, e58, e59, e60, e118]; exact hRE
  have hKR8 : zKR v37 v38 w94 w95 := by rw [e61, e62, e121, e122]; exact hKR
  exact fin _ _ _ (z_LI hIX hIM hzx hzm hd ⟨(e100.trans e41.symm), (e101.trans e42.symm), (e102.trans e43.symm), (e103.trans e44.symm), (e104.trans e45.symm), (e105.trans e46.symm), (e106.trans e47.symm), (e107.trans e48.symm), (e109.trans e51.symm), (e108.trans e49.symm), (e110.trans e52.symm), (e112.trans e53.symm), (e113.trans e54.symm), (e115.trans e56.symm), (e116.trans e57.symm), (e117.trans e58.symm), (e119.trans e59.symm), (e124.trans e64.symm), (e120.trans e61.symm), (e123.trans e63.symm), hPC9, hFF9, hRE9, hKR8⟩) hS (lv_sub hl [0, 1, 2, 3] rfl)
set_option maxHeartbeats 4000000 in
set_option maxRecDepth 100000 in
theorem law_case_19 {p : Program} {l : Launch} {e : Env} {s : State} {m : MethodId} {below : List Frame} {meth : Method} {c : Code} {D : va_G} {cy : Nat → ClassId} {b L : Nat} {xs : Nat → Int32} {o mo j : Nat} (C : zC D cy p s m #[Value.ref b] meth c RL cL_law 4) (hXs : va_X b L xs s s.heap) (hbl : b < s.heap.size) (hbA : ¬ zLA s b) (hL : L ≤ 2560) (hj : 5 * j + 5 ≤ L) (fin : ∀ (H : Heap) (locs : List Loc) (ls : Array Slot), zLI D cy s o mo H → va_S (zLA s) s.heap H locs → lv_has ls 4 [(0, .ref b), (1, .ref o), (2, .ref mo), (3, .int (nI (5 * j)))] → W p l e room_1 s m #[Value.ref b] below meth c H locs (100 + 10 * (j + 1)) (3000 + 60 * (j + 1)) (lw_Z below #[Value.ref b] s) (F0 m 1358 ls [])) {H : Heap} {locs : List Loc} {ls : Array Slot} (hLI : zLI D cy s o mo H) (hS : va_S (zLA s) s.heap H locs) (hl : lv_has ls 4 [(0, .ref b), (1, .ref o), (2, .ref mo), (3, .int (nI (5 * j)))]) : W p l e room_1 s m #[Value.ref b] below meth c H locs (100 + 10 * j) (3000 + 60 * j) (lw_Z below #[Value.ref b] s) (F0 m 913 ls []) := by
  have hx := C.1
  have hb := C.2.1
  have hA : ∀ q, s.heap.size ≤ q → zLA s q := fun q h => h
  refine Exists.elim hLI fun fX h90 => h90.elim fun fM h91 => h91.elim fun fa h92 => h92.elim fun fi h93 => h93.elim fun nu h94 => h94.elim fun fm h95 => h95.elim fun co h96 => h96.elim fun en h97 => h97.elim fun ke h98 => h98.elim fun ev h99 => h99.elim fun al h910 => h910.elim fun ra h911 => h911.elim fun kn h912 => h912.elim fun vq h913 => h913.elim fun ge h914 => h914.elim fun ea h915 => h915.elim fun ma h916 => h916.elim fun u1 h917 => h917.elim fun u2 h918 => h918.elim fun u3 h919 => h919.elim fun gv h920 => h920.elim fun nl h921 => h921.elim fun gu h922 => h922.elim fun nn h923 => h923.elim fun ga h924 => h924.elim fun gr h925 => h925.elim fun fg h926 => h926.elim fun pt h927 => h927.elim fun kd h928 => h928.elim fun ln h929 => h929.elim fun pp h930 => h930.elim fun wg h931 => h931.elim fun wd h932 => h932.elim fun hs h933 => h933.elim fun bf h934 => h934.elim fun nf h935 => h935.elim fun gf h936 => h936.elim fun fq h937 => h937.elim fun fk h938 => h938.elim fun fz h939 => h939.elim fun fc h940 => h940.elim fun nc h941 => h941.elim fun gc h942 => h942.elim fun cn h943 => h943.elim fun ce h944 => h944.elim fun cm h945 => h945.elim fun sq h946 => h946.elim fun mb h947 => h947.elim fun ks h948 => h948.elim fun kk h949 => h949.elim fun kv h950 => h950.elim fun lk h951 => h951.elim fun m_wev h952 => h952.elim fun m_wnb h953 => h953.elim fun m_wki h954 => h954.elim fun m_wmy h955 => h955.elim fun m_wce h956 => h956.elim fun m_wiw h957 => h957.elim fun m_wli h958 => h958.elim fun m_wha h959 => h959.elim fun m_wwt h960 => h960.elim fun m_wfy h961 => h961.elim fun m_wfk h962 => h962.elim fun m_wem h963 => h963.elim fun m_wna h964 => h964.elim fun m_wpl h965 => h965.elim fun m_whs h966 => h966.elim fun m_wk1 h967 => h967.elim fun m_wk2 h968 => h968.elim fun m_wk3 h969 => h969.elim fun m_u1 h970 => h970.elim fun m_u2 h971 => h971.elim fun m_u3 h972 => h972.elim fun m_nl h973 => h973.elim fun m_nn h974 => h974.elim fun m_nf h975 => h975.elim fun m_nc h976 => h976.elim fun m_lk h977 => h977.elim fun m_ks h978 => h978.elim fun m_gv h979 => h979.elim fun m_gu h980 => h980.elim fun m_gk h981 => h981.elim fun m_gm h982 => h982.elim fun m_gc h983 => h983.elim fun m_gw h984 => h984.elim fun m_gl h985 => h985.elim fun m_gh h986 => h986.elim fun m_gt h987 => h987.elim fun m_gy h988 => h988.elim fun m_gq h989 => h989.elim fun m_ge1 h990 => h990.elim fun m_gn1 h991 => h991.elim fun m_gp1 h992 => h992.elim fun m_gs h993 => h993.elim fun m_gx1 h994 => h994.elim fun m_gx2 h995 => h995.elim fun m_gx3 h996 => h996.elim fun m_ln h997 => h997.elim fun m_fz h998 => h998.elim fun m_sq h999 => ?_
  clear hLI h90 h91 h92 h93 h94 h95 h96 h97 h98 h99 h910 h911 h912 h913 h914 h915 h916 h917 h918 h919 h920 h921 h922 h923 h924 h925 h926 h927 h928 h929 h930 h931 h932 h933 h934 h935 h936 h937 h938 h939 h940 h941 h942 h943 h944 h945 h946 h947 h948 h949 h950 h951 h952 h953 h954 h955 h956 h957 h958 h959 h960 h961 h962 h963 h964 h965 h966 h967 h968 h969 h970 h971 h972 h973 h974 h975 h976 h977 h978 h979 h980 h981 h982 h983 h984 h985 h986 h987 h988 h989 h990 h991 h992 h993 h994 h995 h996 h997 h998
  obtain ⟨hIX, hIM, hzx, hzm, hd, rfl, rfl, rfl, rfl, rfl, rfl, rfl, rfl, rfl, rfl, rfl, rfl, rfl, rfl, rfl, rfl, rfl, rfl, rfl, rfl, hPC, hFF, hRE, hKR⟩ := h999
  have hl15 := zIM_ln hIM
  have hfz4 := zIM_fz hIM
  have hn60 := zIM_n60 hIM
  have hf60 := zIM_f60 hIM
  have hc60 := zIM_c60 hIM
  have hs40 := zIM_s40 hIM
  refine lv_aload_n hx hb dL_law_913 rfl (lv_at hl 1 rfl) ?_
  refine lv_aload_n hx hb dL_law_914 rfl (lv_at hl 0 rfl) ?_
  refine lv_iload_n hx hb dL_law_915 rfl (lv_at hl 3 rfl) ?_
  refine lv_iconst (v := 1) hx hb dL_law_916 (by decide) ?_
  refine lv_iadd hx hb dL_law_917 ?_
  refine lv_topi (fun y1 e2 => ?_)
  obtain rfl : y1 = nI (5 * j + 1) := e2.trans (nI_add (5 * j) 1)
  refine z_sld (5 * j + 1) hx hb hXs hbl hbA hS rfl (by omega) (by omega) dL_law_918 ?_
  refine z_callVi2 (As := [.int (xs (5 * j + 1))]) C hzx hS hA hl (k_X7_ranked l D cy fX o fa fi nu fm co en ke ev al ra kn vq ge ea ma m_u1 m_u2 m_u3 m_gv m_nl m_gu m_nn ga gr fg pt m_gk m_ln pp wg m_gw m_gh bf m_nf gf fq fk m_fz fc m_nc gc cn m_ge1 m_gn1 m_sq mb m_ks kk m_gx3 m_lk (xs (5 * j + 1))  hIX) zyX7_ranked mML_99 hIX.1 zl7 rfl rfl (Nat.le_of_ble_eq_true rfl) ⟨Nat.le_of_ble_eq_true rfl, Nat.le_of_ble_eq_true rfl⟩ ⟨show 100 + 10 * j + 0 ≤ 600000 by omega, show 3000 + 60 * j + 0 ≤ 7302249 by omega⟩ dL_law_919 (fun r3 f1 H locs hp hz1 hS hfr => ?_)
  clear hIX
  refine hp.elim fun v4 h90 => h90.elim fun v5 h91 => h91.elim fun v6 h92 => h92.elim fun v7 h93 => h93.elim fun v8 h94 => h94.elim fun v9 h95 => h95.elim fun v10 h96 => h96.elim fun v11 h97 => h97.elim fun v12 h98 => h98.elim fun v13 h99 => h99.elim fun v14 h910 => h910.elim fun v15 h911 => h911.elim fun v16 h912 => h912.elim fun v17 h913 => h913.elim fun v18 h914 => h914.elim fun v19 h915 => h915.elim fun v20 h916 => h916.elim fun v21 h917 => h917.elim fun v22 h918 => h918.elim fun v23 h919 => h919.elim fun v24 h920 => h920.elim fun v25 h921 => h921.elim fun v26 h922 => h922.elim fun v27 h923 => h923.elim fun v28 h924 => h924.elim fun v29 h925 => h925.elim fun v30 h926 => h926.elim fun v31 h927 => h927.elim fun v32 h928 => h928.elim fun v33 h929 => h929.elim fun v34 h930 => h930.elim fun v35 h931 => h931.elim fun v36 h932 => h932.elim fun v37 h933 => h933.elim fun v38 h934 => ?_
  clear hp h90 h91 h92 h93 h94 h95 h96 h97 h98 h99 h910 h911 h912 h913 h914 h915 h916 h917 h918 h919 h920 h921 h922 h923 h924 h925 h926 h927 h928 h929 h930 h931 h932 h933
  obtain ⟨e39, e40, e41, e42, e43, e44, e45, e46, e47, e48, e49, e50, e51, e52, e53, e54, e55, e56, e57, e58, e59, e60, e61, e62, hIX⟩ := h934
  obtain ⟨hzm, hd⟩ := hfr fM hzm hd
  have hzx := hz1
  clear hz1 hfr
  obtain ⟨fX, hfx9⟩ : ∃ g : zM, g = f1 := ⟨_, rfl⟩
  rw [← hfx9] at hIX hd hzx
  clear hfx9
  refine lv_pop hx hb dL_law_922 rfl ?_
  refine lv_aload_n hx hb dL_law_923 rfl (lv_at hl 2 rfl) ?_
  refine lv_aload_n hx hb dL_law_924 rfl (lv_at hl 0 rfl) ?_
  refine lv_iload_n hx hb dL_law_925 rfl (lv_at hl 3 rfl) ?_
  refine lv_iconst (v := 1) hx hb dL_law_926 (by decide) ?_
  refine lv_iadd hx hb dL_law_927 ?_
  refine lv_topi (fun y63 e64 => ?_)
  obtain rfl : y63 = nI (5 * j + 1) := e64.trans (nI_add (5 * j) 1)
  refine z_sld (5 * j + 1) hx hb hXs hbl hbA hS rfl (by omega) (by omega) dL_law_928 ?_
  refine z_callVi2 (As := [.int (xs (5 * j + 1))]) C hzm hS hA hl (k_X8_ranked l D cy fM mo m_wev m_wnb m_wki m_wmy m_wce m_wiw m_wli m_wha m_wwt m_wfy m_wfk m_wem m_wna m_wpl m_whs m_wk1 m_wk2 m_wk3 m_u1 m_u2 m_u3 m_nl m_nn m_nf m_nc m_lk m_ks m_gv m_gu m_gk m_gm m_gc m_gw m_gl m_gh m_gt m_gy m_gq m_ge1 m_gn1 m_gp1 m_gs m_gx1 m_gx2 m_gx3 m_ln m_fz m_sq (xs (5 * j + 1))  hIM) zyX8_ranked mML_102 hIM.1 zl8 rfl rfl (Nat.le_of_ble_eq_true rfl) ⟨Nat.le_of_ble_eq_true rfl, Nat.le_of_ble_eq_true rfl⟩ ⟨show 100 + 10 * j + 0 + 0 ≤ 600000 by omega, show 3000 + 60 * j + 0 + 0 ≤ 7302249 by omega⟩ dL_law_929 (fun r65 f1 H locs hp hz1 hS hfr => ?_)
  clear hIM
  refine hp.elim fun w66 h90 => h90.elim fun w67 h91 => h91.elim fun w68 h92 => h92.elim fun w69 h93 => h93.elim fun w70 h94 => h94.elim fun w71 h95 => h95.elim fun w72 h96 => h96.elim fun w73 h97 => h97.elim fun w74 h98 => h98.elim fun w75 h99 => h99.elim fun w76 h910 => h910.elim fun w77 h911 => h911.elim fun w78 h912 => h912.elim fun w79 h913 => h913.elim fun w80 h914 => h914.elim fun w81 h915 => h915.elim fun w82 h916 => h916.elim fun w83 h917 => h917.elim fun w84 h918 => h918.elim fun w85 h919 => h919.elim fun w86 h920 => h920.elim fun w87 h921 => h921.elim fun w88 h922 => h922.elim fun w89 h923 => h923.elim fun w90 h924 => h924.elim fun w91 h925 => h925.elim fun w92 h926 => h926.elim fun w93 h927 => h927.elim fun w94 h928 => h928.elim fun w95 h929 => ?_
  clear hp h90 h91 h92 h93 h94 h95 h96 h97 h98 h99 h910 h911 h912 h913 h914 h915 h916 h917 h918 h919 h920 h921 h922 h923 h924 h925 h926 h927 h928
  obtain ⟨e96, e97, e98, e99, e100, e101, e102, e103, e104, e105, e106, e107, e108, e109, e110, e111, e112, e113, e114, e115, e116, e117, e118, e119, e120, hIM⟩ := h929
  obtain ⟨hzx, hd⟩ := hfr fX hzx (z_dsym hd)
  replace hd := z_dsym hd
  have hzm := hz1
  clear hz1 hfr
  obtain ⟨fM, hfm9⟩ : ∃ g : zM, g = f1 := ⟨_, rfl⟩
  rw [← hfm9] at hIM hd hzm
  clear hfm9
  refine lv_pop hx hb dL_law_932 rfl ?_
  refine lv_goto (tgt := 1358) hx hb dL_law_933 (by decide) ?_
  refine W.widen (k := 100 + 10 * (j + 1)) (n := 3000 + 60 * (j + 1)) (show 100 + 10 * j + 0 + 0 ≤ 100 + 10 * (j + 1) by omega) (show 3000 + 60 * j + 0 + 0 ≤ 3000 + 60 * (j + 1) by omega) ?_
  have hPC9 : zPC v10 v16 v17 w79 := by rw [e45, e47, e48, e107]; exact hPC
  have hFF9 : zFF v22 v26 v27 w85 := by rw [e51, e52, e53, e110]; exact hFF
  have hRE9 : zRE v28 v31 v32 v33 v34 w88 := by rw [e54, e55, e56, e57, e58, e114]; exact hRE
  have hKR8 : zKR v35 v36 w90 w91 := by rw [e59, e60, e117, e118]; exact hKR
  exact fin _ _ _ (z_LI hIX hIM hzx hzm hd ⟨(e96.trans e39.symm), (e97.trans e40.symm), (e98.trans e41.symm), (e99.trans e42.symm), (e100.trans e43.symm), (e101.trans e44.symm), (e102.trans e45.symm), (e103.trans e46.symm), (e105.trans e49.symm), (e104.trans e47.symm), (e106.trans e50.symm), (e108.trans e51.symm), (e109.trans e52.symm), (e111.trans e54.symm), (e112.trans e55.symm), (e113.trans e56.symm), (e115.trans e57.symm), (e120.trans e62.symm), (e116.trans e59.symm), (e119.trans e61.symm), hPC9, hFF9, hRE9, hKR8⟩) hS (lv_sub hl [0, 1, 2, 3] rfl)
set_option maxHeartbeats 4000000 in
set_option maxRecDepth 100000 in
theorem law_case_20 {p : Program} {l : Launch} {e : Env} {s : State} {m : MethodId} {below : List Frame} {meth : Method} {c : Code} {D : va_G} {cy : Nat → ClassId} {b L : Nat} {xs : Nat → Int32} {o mo j : Nat} (C : zC D cy p s m #[Value.ref b] meth c RL cL_law 4) (hXs : va_X b L xs s s.heap) (hbl : b < s.heap.size) (hbA : ¬ zLA s b) (hL : L ≤ 2560) (hj : 5 * j + 5 ≤ L) (fin : ∀ (H : Heap) (locs : List Loc) (ls : Array Slot), zLI D cy s o mo H → va_S (zLA s) s.heap H locs → lv_has ls 4 [(0, .ref b), (1, .ref o), (2, .ref mo), (3, .int (nI (5 * j)))] → W p l e room_1 s m #[Value.ref b] below meth c H locs (100 + 10 * (j + 1)) (3000 + 60 * (j + 1)) (lw_Z below #[Value.ref b] s) (F0 m 1358 ls [])) {H : Heap} {locs : List Loc} {ls : Array Slot} (hLI : zLI D cy s o mo H) (hS : va_S (zLA s) s.heap H locs) (hl : lv_has ls 4 [(0, .ref b), (1, .ref o), (2, .ref mo), (3, .int (nI (5 * j)))]) : W p l e room_1 s m #[Value.ref b] below meth c H locs (100 + 10 * j) (3000 + 60 * j) (lw_Z below #[Value.ref b] s) (F0 m 936 ls []) := by
  have hx := C.1
  have hb := C.2.1
  have hA : ∀ q, s.heap.size ≤ q → zLA s q := fun q h => h
  refine Exists.elim hLI fun fX h90 => h90.elim fun fM h91 => h91.elim fun fa h92 => h92.elim fun fi h93 => h93.elim fun nu h94 => h94.elim fun fm h95 => h95.elim fun co h96 => h96.elim fun en h97 => h97.elim fun ke h98 => h98.elim fun ev h99 => h99.elim fun al h910 => h910.elim fun ra h911 => h911.elim fun kn h912 => h912.elim fun vq h913 => h913.elim fun ge h914 => h914.elim fun ea h915 => h915.elim fun ma h916 => h916.elim fun u1 h917 => h917.elim fun u2 h918 => h918.elim fun u3 h919 => h919.elim fun gv h920 => h920.elim fun nl h921 => h921.elim fun gu h922 => h922.elim fun nn h923 => h923.elim fun ga h924 => h924.elim fun gr h925 => h925.elim fun fg h926 => h926.elim fun pt h927 => h927.elim fun kd h928 => h928.elim fun ln h929 => h929.elim fun pp h930 => h930.elim fun wg h931 => h931.elim fun wd h932 => h932.elim fun hs h933 => h933.elim fun bf h934 => h934.elim fun nf h935 => h935.elim fun gf h936 => h936.elim fun fq h937 => h937.elim fun fk h938 => h938.elim fun fz h939 => h939.elim fun fc h940 => h940.elim fun nc h941 => h941.elim fun gc h942 => h942.elim fun cn h943 => h943.elim fun ce h944 => h944.elim fun cm h945 => h945.elim fun sq h946 => h946.elim fun mb h947 => h947.elim fun ks h948 => h948.elim fun kk h949 => h949.elim fun kv h950 => h950.elim fun lk h951 => h951.elim fun m_wev h952 => h952.elim fun m_wnb h953 => h953.elim fun m_wki h954 => h954.elim fun m_wmy h955 => h955.elim fun m_wce h956 => h956.elim fun m_wiw h957 => h957.elim fun m_wli h958 => h958.elim fun m_wha h959 => h959.elim fun m_wwt h960 => h960.elim fun m_wfy h961 => h961.elim fun m_wfk h962 => h962.elim fun m_wem h963 => h963.elim fun m_wna h964 => h964.elim fun m_wpl h965 => h965.elim fun m_whs h966 => h966.elim fun m_wk1 h967 => h967.elim fun m_wk2 h968 => h968.elim fun m_wk3 h969 => h969.elim fun m_u1 h970 => h970.elim fun m_u2 h971 => h971.elim fun m_u3 h972 => h972.elim fun m_nl h973 => h973.elim fun m_nn h974 => h974.elim fun m_nf h975 => h975.elim fun m_nc h976 => h976.elim fun m_lk h977 => h977.elim fun m_ks h978 => h978.elim fun m_gv h979 => h979.elim fun m_gu h980 => h980.elim fun m_gk h981 => h981.elim fun m_gm h982 => h982.elim fun m_gc h983 => h983.elim fun m_gw h984 => h984.elim fun m_gl h985 => h985.elim fun m_gh h986 => h986.elim fun m_gt h987 => h987.elim fun m_gy h988 => h988.elim fun m_gq h989 => h989.elim fun m_ge1 h990 => h990.elim fun m_gn1 h991 => h991.elim fun m_gp1 h992 => h992.elim fun m_gs h993 => h993.elim fun m_gx1 h994 => h994.elim fun m_gx2 h995 => h995.elim fun m_gx3 h996 => h996.elim fun m_ln h997 => h997.elim fun m_fz h998 => h998.elim fun m_sq h999 => ?_
  clear hLI h90 h91 h92 h93 h94 h95 h96 h97 h98 h99 h910 h911 h912 h913 h914 h915 h916 h917 h918 h919 h920 h921 h922 h923 h924 h925 h926 h927 h928 h929 h930 h931 h932 h933 h934 h935 h936 h937 h938 h939 h940 h941 h942 h943 h944 h945 h946 h947 h948 h949 h950 h951 h952 h953 h954 h955 h956 h957 h958 h959 h960 h961 h962 h963 h964 h965 h966 h967 h968 h969 h970 h971 h972 h973 h974 h975 h976 h977 h978 h979 h980 h981 h982 h983 h984 h985 h986 h987 h988 h989 h990 h991 h992 h993 h994 h995 h996 h997 h998
  obtain ⟨hIX, hIM, hzx, hzm, hd, rfl, rfl, rfl, rfl, rfl, rfl, rfl, rfl, rfl, rfl, rfl, rfl, rfl, rfl, rfl, rfl, rfl, rfl, rfl, rfl, hPC, hFF, hRE, hKR⟩ := h999
  have hl15 := zIM_ln hIM
  have hfz4 := zIM_fz hIM
  have hn60 := zIM_n60 hIM
  have hf60 := zIM_f60 hIM
  have hc60 := zIM_c60 hIM
  have hs40 := zIM_s40 hIM
  refine lv_aload_n hx hb dL_law_936 rfl (lv_at hl 1 rfl) ?_
  refine lv_aload_n hx hb dL_law_937 rfl (lv_at hl 0 rfl) ?_
  refine lv_iload_n hx hb dL_law_938 rfl (lv_at hl 3 rfl) ?_
  refine lv_iconst (v := 1) hx hb dL_law_939 (by decide) ?_
  refine lv_iadd hx hb dL_law_940 ?_
  refine lv_topi (fun y1 e2 => ?_)
  obtain rfl : y1 = nI (5 * j + 1) := e2.trans (nI_add (5 * j) 1)
  refine z_sld (5 * j + 1) hx hb hXs hbl hbA hS rfl (by omega) (by omega) dL_law_941 ?_
  refine z_callVi2 (As := [.int (xs (5 * j + 1))]) C hzx hS hA hl (k_X7_first l D cy fX o fa fi nu fm co en ke ev al ra kn vq ge ea ma m_u1 m_u2 m_u3 m_gv m_nl m_gu m_nn ga gr fg pt m_gk m_ln pp wg m_gw m_gh bf m_nf gf fq fk m_fz fc m_nc gc cn m_ge1 m_gn1 m_sq mb m_ks kk m_gx3 m_lk (xs (5 * j + 1))  hIX) zyX7_first mML_103 hIX.1 zl7 rfl rfl (Nat.le_of_ble_eq_true rfl) ⟨Nat.le_of_ble_eq_true rfl, Nat.le_of_ble_eq_true rfl⟩ ⟨show 100 + 10 * j + 0 ≤ 600000 by omega, show 3000 + 60 * j + 0 ≤ 7302249 by omega⟩ dL_law_942 (fun r3 f1 H locs hp hz1 hS hfr => ?_)
  clear hIX
  refine hp.elim fun v4 h90 => h90.elim fun v5 h91 => h91.elim fun v6 h92 => h92.elim fun v7 h93 => h93.elim fun v8 h94 => h94.elim fun v9 h95 => h95.elim fun v10 h96 => h96.elim fun v11 h97 => h97.elim fun v12 h98 => h98.elim fun v13 h99 => h99.elim fun v14 h910 => h910.elim fun v15 h911 => h911.elim fun v16 h912 => h912.elim fun v17 h913 => h913.elim fun v18 h914 => h914.elim fun v19 h915 => h915.elim fun v20 h916 => h916.elim fun v21 h917 => h917.elim fun v22 h918 => h918.elim fun v23 h919 => h919.elim fun v24 h920 => h920.elim fun v25 h921 => h921.elim fun v26 h922 => h922.elim fun v27 h923 => h923.elim fun v28 h924 => h924.elim fun v29 h925 => h925.elim fun v30 h926 => h926.elim fun v31 h927 => h927.elim fun v32 h928 => h928.elim fun v33 h929 => h929.elim fun v34 h930 => h930.elim fun v35 h931 => h931.elim fun v36 h932 => h932.elim fun v37 h933 => h933.elim fun v38 h934 => ?_
  clear hp h90 h91 h92 h93 h94 h95 h96 h97 h98 h99 h910 h911 h912 h913 h914 h915 h916 h917 h918 h919 h920 h921 h922 h923 h924 h925 h926 h927 h928 h929 h930 h931 h932 h933
  obtain ⟨e39, e40, e41, e42, e43, e44, e45, e46, e47, e48, e49, e50, e51, e52, e53, e54, e55, e56, e57, e58, e59, e60, e61, e62, hIX⟩ := h934
  obtain ⟨hzm, hd⟩ := hfr fM hzm hd
  have hzx := hz1
  clear hz1 hfr
  obtain ⟨fX, hfx9⟩ : ∃ g : zM, g = f1 := ⟨_, rfl⟩
  rw [← hfx9] at hIX hd hzx
  clear hfx9
  refine lv_pop hx hb dL_law_945 rfl ?_
  refine lv_aload_n hx hb dL_law_946 rfl (lv_at hl 2 rfl) ?_
  refine lv_aload_n hx hb dL_law_947 rfl (lv_at hl 0 rfl) ?_
  refine lv_iload_n hx hb dL_law_948 rfl (lv_at hl 3 rfl) ?_
  refine lv_iconst (v := 1) hx hb dL_law_949 (by decide) ?_
  refine lv_iadd hx hb dL_law_950 ?_
  refine lv_topi (fun y63 e64 => ?_)
  obtain rfl : y63 = nI (5 * j + 1) := e64.trans (nI_add (5 * j) 1)
  refine z_sld (5 * j + 1) hx hb hXs hbl hbA hS rfl (by omega) (by omega) dL_law_951 ?_
  refine z_callVi2 (As := [.int (xs (5 * j + 1))]) C hzm hS hA hl (k_X8_first l D cy fM mo m_wev m_wnb m_wki m_wmy m_wce m_wiw m_wli m_wha m_wwt m_wfy m_wfk m_wem m_wna m_wpl m_whs m_wk1 m_wk2 m_wk3 m_u1 m_u2 m_u3 m_nl m_nn m_nf m_nc m_lk m_ks m_gv m_gu m_gk m_gm m_gc m_gw m_gl m_gh m_gt m_gy m_gq m_ge1 m_gn1 m_gp1 m_gs m_gx1 m_gx2 m_gx3 m_ln m_fz m_sq (xs (5 * j + 1))  hIM) zyX8_first mML_106 hIM.1 zl8 rfl rfl (Nat.le_of_ble_eq_true rfl) ⟨Nat.le_of_ble_eq_true rfl, Nat.le_of_ble_eq_true rfl⟩ ⟨show 100 + 10 * j + 0 + 0 ≤ 600000 by omega, show 3000 + 60 * j + 0 + 0 ≤ 7302249 by omega⟩ dL_law_952 (fun r65 f1 H locs hp hz1 hS hfr => ?_)
  clear hIM
  refine hp.elim fun w66 h90 => h90.elim fun w67 h91 => h91.elim fun w68 h92 => h92.elim fun w69 h93 => h93.elim fun w70 h94 => h94.elim fun w71 h95 => h95.elim fun w72 h96 => h96.elim fun w73 h97 => h97.elim fun w74 h98 => h98.elim fun w75 h99 => h99.elim fun w76 h910 => h910.elim fun w77 h911 => h911.elim fun w78 h912 => h912.elim fun w79 h913 => h913.elim fun w80 h914 => h914.elim fun w81 h915 => h915.elim fun w82 h916 => h916.elim fun w83 h917 => h917.elim fun w84 h918 => h918.elim fun w85 h919 => h919.elim fun w86 h920 => h920.elim fun w87 h921 => h921.elim fun w88 h922 => h922.elim fun w89 h923 => h923.elim fun w90 h924 => h924.elim fun w91 h925 => h925.elim fun w92 h926 => h926.elim fun w93 h927 => h927.elim fun w94 h928 => h928.elim fun w95 h929 => ?_
  clear hp h90 h91 h92 h93 h94 h95 h96 h97 h98 h99 h910 h911 h912 h913 h914 h915 h916 h917 h918 h919 h920 h921 h922 h923 h924 h925 h926 h927 h928
  obtain ⟨e96, e97, e98, e99, e100, e101, e102, e103, e104, e105, e106, e107, e108, e109, e110, e111, e112, e113, e114, e115, e116, e117, e118, e119, e120, hIM⟩ := h929
  obtain ⟨hzx, hd⟩ := hfr fX hzx (z_dsym hd)
  replace hd := z_dsym hd
  have hzm := hz1
  clear hz1 hfr
  obtain ⟨fM, hfm9⟩ : ∃ g : zM, g = f1 := ⟨_, rfl⟩
  rw [← hfm9] at hIM hd hzm
  clear hfm9
  refine lv_pop hx hb dL_law_955 rfl ?_
  refine lv_goto (tgt := 1358) hx hb dL_law_956 (by decide) ?_
  refine W.widen (k := 100 + 10 * (j + 1)) (n := 3000 + 60 * (j + 1)) (show 100 + 10 * j + 0 + 0 ≤ 100 + 10 * (j + 1) by omega) (show 3000 + 60 * j + 0 + 0 ≤ 3000 + 60 * (j + 1) by omega) ?_
  have hPC9 : zPC v10 v16 v17 w79 := by rw [e45, e47, e48, e107]; exact hPC
  have hFF9 : zFF v22 v26 v27 w85 := by rw [e51, e52, e53, e110]; exact hFF
  have hRE9 : zRE v28 v31 v32 v33 v34 w88 := by rw [e54, e55, e56, e57, e58, e114]; exact hRE
  have hKR8 : zKR v35 v36 w90 w91 := by rw [e59, e60, e117, e118]; exact hKR
  exact fin _ _ _ (z_LI hIX hIM hzx hzm hd ⟨(e96.trans e39.symm), (e97.trans e40.symm), (e98.trans e41.symm), (e99.trans e42.symm), (e100.trans e43.symm), (e101.trans e44.symm), (e102.trans e45.symm), (e103.trans e46.symm), (e105.trans e49.symm), (e104.trans e47.symm), (e106.trans e50.symm), (e108.trans e51.symm), (e109.trans e52.symm), (e111.trans e54.symm), (e112.trans e55.symm), (e113.trans e56.symm), (e115.trans e57.symm), (e120.trans e62.symm), (e116.trans e59.symm), (e119.trans e61.symm), hPC9, hFF9, hRE9, hKR8⟩) hS (lv_sub hl [0, 1, 2, 3] rfl)
set_option maxHeartbeats 4000000 in
set_option maxRecDepth 100000 in
theorem law_case_21 {p : Program} {l : Launch} {e : Env} {s : State} {m : MethodId} {below : List Frame} {meth : Method} {c : Code} {D : va_G} {cy : Nat → ClassId} {b L : Nat} {xs : Nat → Int32} {o mo j : Nat} (C : zC D cy p s m #[Value.ref b] meth c RL cL_law 4) (hXs : va_X b L xs s s.heap) (hbl : b < s.heap.size) (hbA : ¬ zLA s b) (hL : L ≤ 2560) (hj : 5 * j + 5 ≤ L) (fin : ∀ (H : Heap) (locs : List Loc) (ls : Array Slot), zLI D cy s o mo H → va_S (zLA s) s.heap H locs → lv_has ls 4 [(0, .ref b), (1, .ref o), (2, .ref mo), (3, .int (nI (5 * j)))] → W p l e room_1 s m #[Value.ref b] below meth c H locs (100 + 10 * (j + 1)) (3000 + 60 * (j + 1)) (lw_Z below #[Value.ref b] s) (F0 m 1358 ls [])) {H : Heap} {locs : List Loc} {ls : Array Slot} (hLI : zLI D cy s o mo H) (hS : va_S (zLA s) s.heap H locs) (hl : lv_has ls 4 [(0, .ref b), (1, .ref o), (2, .ref mo), (3, .int (nI (5 * j)))]) : W p l e room_1 s m #[Value.ref b] below meth c H locs (100 + 10 * j) (3000 + 60 * j) (lw_Z below #[Value.ref b] s) (F0 m 959 ls []) := by
  have hx := C.1
  have hb := C.2.1
  have hA : ∀ q, s.heap.size ≤ q → zLA s q := fun q h => h
  refine Exists.elim hLI fun fX h90 => h90.elim fun fM h91 => h91.elim fun fa h92 => h92.elim fun fi h93 => h93.elim fun nu h94 => h94.elim fun fm h95 => h95.elim fun co h96 => h96.elim fun en h97 => h97.elim fun ke h98 => h98.elim fun ev h99 => h99.elim fun al h910 => h910.elim fun ra h911 => h911.elim fun kn h912 => h912.elim fun vq h913 => h913.elim fun ge h914 => h914.elim fun ea h915 => h915.elim fun ma h916 => h916.elim fun u1 h917 => h917.elim fun u2 h918 => h918.elim fun u3 h919 => h919.elim fun gv h920 => h920.elim fun nl h921 => h921.elim fun gu h922 => h922.elim fun nn h923 => h923.elim fun ga h924 => h924.elim fun gr h925 => h925.elim fun fg h926 => h926.elim fun pt h927 => h927.elim fun kd h928 => h928.elim fun ln h929 => h929.elim fun pp h930 => h930.elim fun wg h931 => h931.elim fun wd h932 => h932.elim fun hs h933 => h933.elim fun bf h934 => h934.elim fun nf h935 => h935.elim fun gf h936 => h936.elim fun fq h937 => h937.elim fun fk h938 => h938.elim fun fz h939 => h939.elim fun fc h940 => h940.elim fun nc h941 => h941.elim fun gc h942 => h942.elim fun cn h943 => h943.elim fun ce h944 => h944.elim fun cm h945 => h945.elim fun sq h946 => h946.elim fun mb h947 => h947.elim fun ks h948 => h948.elim fun kk h949 => h949.elim fun kv h950 => h950.elim fun lk h951 => h951.elim fun m_wev h952 => h952.elim fun m_wnb h953 => h953.elim fun m_wki h954 => h954.elim fun m_wmy h955 => h955.elim fun m_wce h956 => h956.elim fun m_wiw h957 => h957.elim fun m_wli h958 => h958.elim fun m_wha h959 => h959.elim fun m_wwt h960 => h960.elim fun m_wfy h961 => h961.elim fun m_wfk h962 => h962.elim fun m_wem h963 => h963.elim fun m_wna h964 => h964.elim fun m_wpl h965 => h965.elim fun m_whs h966 => h966.elim fun m_wk1 h967 => h967.elim fun m_wk2 h968 => h968.elim fun m_wk3 h969 => h969.elim fun m_u1 h970 => h970.elim fun m_u2 h971 => h971.elim fun m_u3 h972 => h972.elim fun m_nl h973 => h973.elim fun m_nn h974 => h974.elim fun m_nf h975 => h975.elim fun m_nc h976 => h976.elim fun m_lk h977 => h977.elim fun m_ks h978 => h978.elim fun m_gv h979 => h979.elim fun m_gu h980 => h980.elim fun m_gk h981 => h981.elim fun m_gm h982 => h982.elim fun m_gc h983 => h983.elim fun m_gw h984 => h984.elim fun m_gl h985 => h985.elim fun m_gh h986 => h986.elim fun m_gt h987 => h987.elim fun m_gy h988 => h988.elim fun m_gq h989 => h989.elim fun m_ge1 h990 => h990.elim fun m_gn1 h991 => h991.elim fun m_gp1 h992 => h992.elim fun m_gs h993 => h993.elim fun m_gx1 h994 => h994.elim fun m_gx2 h995 => h995.elim fun m_gx3 h996 => h996.elim fun m_ln h997 => h997.elim fun m_fz h998 => h998.elim fun m_sq h999 => ?_
  clear hLI h90 h91 h92 h93 h94 h95 h96 h97 h98 h99 h910 h911 h912 h913 h914 h915 h916 h917 h918 h919 h920 h921 h922 h923 h924 h925 h926 h927 h928 h929 h930 h931 h932 h933 h934 h935 h936 h937 h938 h939 h940 h941 h942 h943 h944 h945 h946 h947 h948 h949 h950 h951 h952 h953 h954 h955 h956 h957 h958 h959 h960 h961 h962 h963 h964 h965 h966 h967 h968 h969 h970 h971 h972 h973 h974 h975 h976 h977 h978 h979 h980 h981 h982 h983 h984 h985 h986 h987 h988 h989 h990 h991 h992 h993 h994 h995 h996 h997 h998
  obtain ⟨hIX, hIM, hzx, hzm, hd, rfl, rfl, rfl, rfl, rfl, rfl, rfl, rfl, rfl, rfl, rfl, rfl, rfl, rfl, rfl, rfl, rfl, rfl, rfl, rfl, hPC, hFF, hRE, hKR⟩ := h999
  have hl15 := zIM_ln hIM
  have hfz4 := zIM_fz hIM
  have hn60 := zIM_n60 hIM
  have hf60 := zIM_f60 hIM
  have hc60 := zIM_c60 hIM
  have hs40 := zIM_s40 hIM
  refine lv_aload_n hx hb dL_law_959 rfl (lv_at hl 1 rfl) ?_
  refine lv_aload_n hx hb dL_law_960 rfl (lv_at hl 0 rfl) ?_
  refine lv_iload_n hx hb dL_law_961 rfl (lv_at hl 3 rfl) ?_
  refine lv_iconst (v := 1) hx hb dL_law_962 (by decide) ?_
  refine lv_iadd hx hb dL_law_963 ?_
  refine lv_topi (fun y1 e2 => ?_)
  obtain rfl : y1 = nI (5 * j + 1) := e2.trans (nI_add (5 * j) 1)
  refine z_sld (5 * j + 1) hx hb hXs hbl hbA hS rfl (by omega) (by omega) dL_law_964 ?_
  refine lv_aload_n hx hb dL_law_965 rfl (lv_at hl 0 rfl) ?_
  refine lv_iload_n hx hb dL_law_966 rfl (lv_at hl 3 rfl) ?_
  refine lv_iconst (v := 2) hx hb dL_law_967 (by decide) ?_
  refine lv_iadd hx hb dL_law_968 ?_
  refine lv_topi (fun y3 e4 => ?_)
  obtain rfl : y3 = nI (5 * j + 2) := e4.trans (nI_add (5 * j) 2)
  refine z_sld (5 * j + 2) hx hb hXs hbl hbA hS rfl (by omega) (by omega) dL_law_969 ?_
  refine lv_aload_n hx hb dL_law_970 rfl (lv_at hl 0 rfl) ?_
  refine lv_iload_n hx hb dL_law_971 rfl (lv_at hl 3 rfl) ?_
  refine lv_iconst (v := 3) hx hb dL_law_972 (by decide) ?_
  refine lv_iadd hx hb dL_law_973 ?_
  refine lv_topi (fun y5 e6 => ?_)
  obtain rfl : y5 = nI (5 * j + 3) := e6.trans (nI_add (5 * j) 3)
  refine z_sld (5 * j + 3) hx hb hXs hbl hbA hS rfl (by omega) (by omega) dL_law_974 ?_
  refine lv_aload_n hx hb dL_law_975 rfl (lv_at hl 0 rfl) ?_
  refine lv_iload_n hx hb dL_law_976 rfl (lv_at hl 3 rfl) ?_
  refine lv_iconst (v := 4) hx hb dL_law_977 (by decide) ?_
  refine lv_iadd hx hb dL_law_978 ?_
  refine lv_topi (fun y7 e8 => ?_)
  obtain rfl : y7 = nI (5 * j + 4) := e8.trans (nI_add (5 * j) 4)
  refine z_sld (5 * j + 4) hx hb hXs hbl hbA hS rfl (by omega) (by omega) dL_law_979 ?_
  refine z_callVi2 (As := [.int (xs (5 * j + 1)), .int (xs (5 * j + 2)), .int (xs (5 * j + 3)), .int (xs (5 * j + 4))]) C hzx hS hA hl (k_X7_family l D cy fX o fa fi nu fm co en ke ev al ra kn vq ge ea ma m_u1 m_u2 m_u3 m_gv m_nl m_gu m_nn ga gr fg pt m_gk m_ln pp wg m_gw m_gh bf m_nf gf fq fk m_fz fc m_nc gc cn m_ge1 m_gn1 m_sq mb m_ks kk m_gx3 m_lk (xs (5 * j + 1)) (xs (5 * j + 2)) (xs (5 * j + 3)) (xs (5 * j + 4))  hIX) zyX7_family mML_107 hIX.1 zl7 rfl rfl (Nat.le_of_ble_eq_true rfl) ⟨Nat.le_of_ble_eq_true rfl, Nat.le_of_ble_eq_true rfl⟩ ⟨show 100 + 10 * j + 3 ≤ 600000 by omega, show 3000 + 60 * j + 10 ≤ 7302249 by omega⟩ dL_law_980 (fun r f1 H locs hp hz1 hS hfr => ?_)
  clear hIX
  refine hp.elim fun v9 h90 => h90.elim fun v10 h91 => h91.elim fun v11 h92 => h92.elim fun v12 h93 => h93.elim fun v13 h94 => h94.elim fun v14 h95 => h95.elim fun v15 h96 => h96.elim fun v16 h97 => h97.elim fun v17 h98 => h98.elim fun v18 h99 => h99.elim fun v19 h910 => h910.elim fun v20 h911 => h911.elim fun v21 h912 => h912.elim fun v22 h913 => h913.elim fun v23 h914 => h914.elim fun v24 h915 => h915.elim fun v25 h916 => h916.elim fun v26 h917 => h917.elim fun v27 h918 => h918.elim fun v28 h919 => h919.elim fun v29 h920 => h920.elim fun v30 h921 => h921.elim fun v31 h922 => h922.elim fun v32 h923 => h923.elim fun v33 h924 => h924.elim fun v34 h925 => h925.elim fun v35 h926 => h926.elim fun v36 h927 => h927.elim fun v37 h928 => h928.elim fun v38 h929 => h929.elim fun v39 h930 => h930.elim fun v40 h931 => h931.elim fun v41 h932 => h932.elim fun v42 h933 => h933.elim fun v43 h934 => ?_
  clear hp h90 h91 h92 h93 h94 h95 h96 h97 h98 h99 h910 h911 h912 h913 h914 h915 h916 h917 h918 h919 h920 h921 h922 h923 h924 h925 h926 h927 h928 h929 h930 h931 h932 h933
  obtain ⟨rfl, e44, e45, e46, e47, e48, e49, e50, e51, e52, e53, e54, e55, e56, e57, e58, e59, e60, e61, e62, e63, e64, e65, e66, e67, hIX⟩ := h934
  obtain ⟨hzm, hd⟩ := hfr fM hzm hd
  have hzx := hz1
  clear hz1 hfr
  obtain ⟨fX, hfx9⟩ : ∃ g : zM, g = f1 := ⟨_, rfl⟩
  rw [← hfx9] at hIX hd hzx
  clear hfx9
  refine lv_pop hx hb dL_law_983 rfl ?_
  refine lv_aload_n hx hb dL_law_984 rfl (lv_at hl 2 rfl) ?_
  refine lv_aload_n hx hb dL_law_985 rfl (lv_at hl 0 rfl) ?_
  refine lv_iload_n hx hb dL_law_986 rfl (lv_at hl 3 rfl) ?_
  refine lv_iconst (v := 1) hx hb dL_law_987 (by decide) ?_
  refine lv_iadd hx hb dL_law_988 ?_
  refine lv_topi (fun y68 e69 => ?_)
  obtain rfl : y68 = nI (5 * j + 1) := e69.trans (nI_add (5 * j) 1)
  refine z_sld (5 * j + 1) hx hb hXs hbl hbA hS rfl (by omega) (by omega) dL_law_989 ?_
  refine lv_aload_n hx hb dL_law_990 rfl (lv_at hl 0 rfl) ?_
  refine lv_iload_n hx hb dL_law_991 rfl (lv_at hl 3 rfl) ?_
  refine lv_iconst (v := 2) hx hb dL_law_992 (by decide) ?_
  refine lv_iadd hx hb dL_law_993 ?_
  refine lv_topi (fun y70 e71 => ?_)
  obtain rfl : y70 = nI (5 * j + 2) := e71.trans (nI_add (5 * j) 2)
  refine z_sld (5 * j + 2) hx hb hXs hbl hbA hS rfl (by omega) (by omega) dL_law_994 ?_
  refine lv_aload_n hx hb dL_law_995 rfl (lv_at hl 0 rfl) ?_
  refine lv_iload_n hx hb dL_law_996 rfl (lv_at hl 3 rfl) ?_
  refine lv_iconst (v := 3) hx hb dL_law_997 (by decide) ?_
  refine lv_iadd hx hb dL_law_998 ?_
  refine lv_topi (fun y72 e73 => ?_)
  obtain rfl : y72 = nI (5 * j + 3) := e73.trans (nI_add (5 * j) 3)
  refine z_sld (5 * j + 3) hx hb hXs hbl hbA hS rfl (by omega) (by omega) dL_law_999 ?_
  refine lv_aload_n hx hb dL_law_1000 rfl (lv_at hl 0 rfl) ?_
  refine lv_iload_n hx hb dL_law_1001 rfl (lv_at hl 3 rfl) ?_
  refine lv_iconst (v := 4) hx hb dL_law_1002 (by decide) ?_
  refine lv_iadd hx hb dL_law_1003 ?_
  refine lv_topi (fun y74 e75 => ?_)
  obtain rfl : y74 = nI (5 * j + 4) := e75.trans (nI_add (5 * j) 4)
  refine z_sld (5 * j + 4) hx hb hXs hbl hbA hS rfl (by omega) (by omega) dL_law_1004 ?_
  refine z_callVi2 (As := [.int (xs (5 * j + 1)), .int (xs (5 * j + 2)), .int (xs (5 * j + 3)), .int (xs (5 * j + 4))]) C hzm hS hA hl (k_X8_family l D cy fM mo m_wev m_wnb m_wki m_wmy m_wce m_wiw m_wli m_wha m_wwt m_wfy m_wfk m_wem m_wna m_wpl m_whs m_wk1 m_wk2 m_wk3 m_u1 m_u2 m_u3 m_nl m_nn m_nf m_nc m_lk m_ks m_gv m_gu m_gk m_gm m_gc m_gw m_gl m_gh m_gt m_gy m_gq m_ge1 m_gn1 m_gp1 m_gs m_gx1 m_gx2 m_gx3 m_ln m_fz m_sq (xs (5 * j + 1)) (xs (5 * j + 2)) (xs (5 * j + 3)) (xs (5 * j + 4))  hIM) zyX8_family mML_111 hIM.1 zl8 rfl rfl (Nat.le_of_ble_eq_true rfl) ⟨Nat.le_of_ble_eq_true rfl, Nat.le_of_ble_eq_true rfl⟩ ⟨show 100 + 10 * j + 3 + 0 ≤ 600000 by omega, show 3000 + 60 * j + 10 + 0 ≤ 7302249 by omega⟩ dL_law_1005 (fun r f1 H locs hp hz1 hS hfr => ?_)
  clear hIM
  refine hp.elim fun w76 h90 => h90.elim fun w77 h91 => h91.elim fun w78 h92 => h92.elim fun w79 h93 => h93.elim fun w80 h94 => h94.elim fun w81 h95 => h95.elim fun w82 h96 => h96.elim fun w83 h97 => h97.elim fun w84 h98 => h98.elim fun w85 h99 => h99.elim fun w86 h910 => h910.elim fun w87 h911 => h911.elim fun w88 h912 => h912.elim fun w89 h913 => h913.elim fun w90 h914 => h914.elim fun w91 h915 => h915.elim fun w92 h916 => h916.elim fun w93 h917 => h917.elim fun w94 h918 => h918.elim fun w95 h919 => h919.elim fun w96 h920 => h920.elim fun w97 h921 => h921.elim fun w98 h922 => h922.elim fun w99 h923 => h923.elim fun w100 h924 => h924.elim fun w101 h925 => h925.elim fun w102 h926 => h926.elim fun w103 h927 => h927.elim fun w104 h928 => h928.elim fun w105 h929 => ?_
  clear hp h90 h91 h92 h93 h94 h95 h96 h97 h98 h99 h910 h911 h912 h913 h914 h915 h916 h917 h918 h919 h920 h921 h922 h923 h924 h925 h926 h927 h928
  obtain ⟨rfl, e106, e107, e108, e109, e110, e111, e112, e113, e114, e115, e116, e117, e118, e119, e120, e121, e122, e123, e124, e125, e126, e127, e128, e129, e130, hIM⟩ := h929
  obtain ⟨hzx, hd⟩ := hfr fX hzx (z_dsym hd)
  replace hd := z_dsym hd
  have hzm := hz1
  clear hz1 hfr
  obtain ⟨fM, hfm9⟩ : ∃ g : zM, g = f1 := ⟨_, rfl⟩
  rw [← hfm9] at hIM hd hzm
  clear hfm9
  refine lv_pop hx hb dL_law_1008 rfl ?_
  refine lv_goto (tgt := 1358) hx hb dL_law_1009 (by decide) ?_
  refine W.widen (k := 100 + 10 * (j + 1)) (n := 3000 + 60 * (j + 1)) (show 100 + 10 * j + 3 + 0 ≤ 100 + 10 * (j + 1) by omega) (show 3000 + 60 * j + 10 + 0 ≤ 3000 + 60 * (j + 1) by omega) ?_
  have hPC9 : zPC v15 v21 v22 w89 := by rw [e50, e52, e53, e117]; exact hPC
  have hFF9 : zFF v27 v31 v32 w95 := by rw [e56, e57]; exact zFF_new hFF hfz4 e58 e120
  have hRE9 : zRE v33 v36 v37 v38 v39 w98 := by rw [e59, e60, e61, e62, e63, e124]; exact hRE
  have hKR8 : zKR v40 v41 w100 w101 := by rw [e64, e65, e127, e128]; exact hKR
  exact fin _ _ _ (z_LI hIX hIM hzx hzm hd ⟨(e106.trans e44.symm), (e107.trans e45.symm), (e108.trans e46.symm), (e109.trans e47.symm), (e110.trans e48.symm), (e111.trans e49.symm), (e112.trans e50.symm), (e113.trans e51.symm), (e115.trans e54.symm), (e114.trans e52.symm), (e116.trans e55.symm), (e118.trans e56.symm), (e119.trans e57.symm), (e121.trans e59.symm), (e122.trans e60.symm), (e123.trans e61.symm), (e125.trans e62.symm), (e130.trans e67.symm), (e126.trans e64.symm), (e129.trans e66.symm), hPC9, hFF9, hRE9, hKR8⟩) hS (lv_sub hl [0, 1, 2, 3] rfl)
set_option maxHeartbeats 4000000 in
set_option maxRecDepth 100000 in
theorem law_case_22 {p : Program} {l : Launch} {e : Env} {s : State} {m : MethodId} {below : List Frame} {meth : Method} {c : Code} {D : va_G} {cy : Nat → ClassId} {b L : Nat} {xs : Nat → Int32} {o mo j : Nat} (C : zC D cy p s m #[Value.ref b] meth c RL cL_law 4) (hXs : va_X b L xs s s.heap) (hbl : b < s.heap.size) (hbA : ¬ zLA s b) (hL : L ≤ 2560) (hj : 5 * j + 5 ≤ L) (fin : ∀ (H : Heap) (locs : List Loc) (ls : Array Slot), zLI D cy s o mo H → va_S (zLA s) s.heap H locs → lv_has ls 4 [(0, .ref b), (1, .ref o), (2, .ref mo), (3, .int (nI (5 * j)))] → W p l e room_1 s m #[Value.ref b] below meth c H locs (100 + 10 * (j + 1)) (3000 + 60 * (j + 1)) (lw_Z below #[Value.ref b] s) (F0 m 1358 ls [])) {H : Heap} {locs : List Loc} {ls : Array Slot} (hLI : zLI D cy s o mo H) (hS : va_S (zLA s) s.heap H locs) (hl : lv_has ls 4 [(0, .ref b), (1, .ref o), (2, .ref mo), (3, .int (nI (5 * j)))]) : W p l e room_1 s m #[Value.ref b] below meth c H locs (100 + 10 * j) (3000 + 60 * j) (lw_Z below #[Value.ref b] s) (F0 m 1012 ls []) := by
  have hx := C.1
  have hb := C.2.1
  have hA : ∀ q, s.heap.size ≤ q → zLA s q := fun q h => h
  refine Exists.elim hLI fun fX h90 => h90.elim fun fM h91 => h91.elim fun fa h92 => h92.elim fun fi h93 => h93.elim fun nu h94 => h94.elim fun fm h95 => h95.elim fun co h96 => h96.elim fun en h97 => h97.elim fun ke h98 => h98.elim fun ev h99 => h99.elim fun al h910 => h910.elim fun ra h911 => h911.elim fun kn h912 => h912.elim fun vq h913 => h913.elim fun ge h914 => h914.elim fun ea h915 => h915.elim fun ma h916 => h916.elim fun u1 h917 => h917.elim fun u2 h918 => h918.elim fun u3 h919 => h919.elim fun gv h920 => h920.elim fun nl h921 => h921.elim fun gu h922 => h922.elim fun nn h923 => h923.elim fun ga h924 => h924.elim fun gr h925 => h925.elim fun fg h926 => h926.elim fun pt h927 => h927.elim fun kd h928 => h928.elim fun ln h929 => h929.elim fun pp h930 => h930.elim fun wg h931 => h931.elim fun wd h932 => h932.elim fun hs h933 => h933.elim fun bf h934 => h934.elim fun nf h935 => h935.elim fun gf h936 => h936.elim fun fq h937 => h937.elim fun fk h938 => h938.elim fun fz h939 => h939.elim fun fc h940 => h940.elim fun nc h941 => h941.elim fun gc h942 => h942.elim fun cn h943 => h943.elim fun ce h944 => h944.elim fun cm h945 => h945.elim fun sq h946 => h946.elim fun mb h947 => h947.elim fun ks h948 => h948.elim fun kk h949 => h949.elim fun kv h950 => h950.elim fun lk h951 => h951.elim fun m_wev h952 => h952.elim fun m_wnb h953 => h953.elim fun m_wki h954 => h954.elim fun m_wmy h955 => h955.elim fun m_wce h956 => h956.elim fun m_wiw h957 => h957.elim fun m_wli h958 => h958.elim fun m_wha h959 => h959.elim fun m_wwt h960 => h960.elim fun m_wfy h961 => h961.elim fun m_wfk h962 => h962.elim fun m_wem h963 => h963.elim fun m_wna h964 => h964.elim fun m_wpl h965 => h965.elim fun m_whs h966 => h966.elim fun m_wk1 h967 => h967.elim fun m_wk2 h968 => h968.elim fun m_wk3 h969 => h969.elim fun m_u1 h970 => h970.elim fun m_u2 h971 => h971.elim fun m_u3 h972 => h972.elim fun m_nl h973 => h973.elim fun m_nn h974 => h974.elim fun m_nf h975 => h975.elim fun m_nc h976 => h976.elim fun m_lk h977 => h977.elim fun m_ks h978 => h978.elim fun m_gv h979 => h979.elim fun m_gu h980 => h980.elim fun m_gk h981 => h981.elim fun m_gm h982 => h982.elim fun m_gc h983 => h983.elim fun m_gw h984 => h984.elim fun m_gl h985 => h985.elim fun m_gh h986 => h986.elim fun m_gt h987 => h987.elim fun m_gy h988 => h988.elim fun m_gq h989 => h989.elim fun m_ge1 h990 => h990.elim fun m_gn1 h991 => h991.elim fun m_gp1 h992 => h992.elim fun m_gs h993 => h993.elim fun m_gx1 h994 => h994.elim fun m_gx2 h995 => h995.elim fun m_gx3 h996 => h996.elim fun m_ln h997 => h997.elim fun m_fz h998 => h998.elim fun m_sq h999 => ?_
  clear hLI h90 h91 h92 h93 h94 h95 h96 h97 h98 h99 h910 h911 h912 h913 h914 h915 h916 h917 h918 h919 h920 h921 h922 h923 h924 h925 h926 h927 h928 h929 h930 h931 h932 h933 h934 h935 h936 h937 h938 h939 h940 h941 h942 h943 h944 h945 h946 h947 h948 h949 h950 h951 h952 h953 h954 h955 h956 h957 h958 h959 h960 h961 h962 h963 h964 h965 h966 h967 h968 h969 h970 h971 h972 h973 h974 h975 h976 h977 h978 h979 h980 h981 h982 h983 h984 h985 h986 h987 h988 h989 h990 h991 h992 h993 h994 h995 h996 h997 h998
  obtain ⟨hIX, hIM, hzx, hzm, hd, rfl, rfl, rfl, rfl, rfl, rfl, rfl, rfl, rfl, rfl, rfl, rfl, rfl, rfl, rfl, rfl, rfl, rfl, rfl, rfl, hPC, hFF, hRE, hKR⟩ := h999
  have hl15 := zIM_ln hIM
  have hfz4 := zIM_fz hIM
  have hn60 := zIM_n60 hIM
  have hf60 := zIM_f60 hIM
  have hc60 := zIM_c60 hIM
  have hs40 := zIM_s40 hIM
  refine lv_aload_n hx hb dL_law_1012 rfl (lv_at hl 1 rfl) ?_
  refine lv_aload_n hx hb dL_law_1013 rfl (lv_at hl 0 rfl) ?_
  refine lv_iload_n hx hb dL_law_1014 rfl (lv_at hl 3 rfl) ?_
  refine lv_iconst (v := 1) hx hb dL_law_1015 (by decide) ?_
  refine lv_iadd hx hb dL_law_1016 ?_
  refine lv_topi (fun y1 e2 => ?_)
  obtain rfl : y1 = nI (5 * j + 1) := e2.trans (nI_add (5 * j) 1)
  refine z_sld (5 * j + 1) hx hb hXs hbl hbA hS rfl (by omega) (by omega) dL_law_1017 ?_
  refine lv_aload_n hx hb dL_law_1018 rfl (lv_at hl 0 rfl) ?_
  refine lv_iload_n hx hb dL_law_1019 rfl (lv_at hl 3 rfl) ?_
  refine lv_iconst (v := 2) hx hb dL_law_1020 (by decide) ?_
  refine lv_iadd hx hb dL_law_1021 ?_
  refine lv_topi (fun y3 e4 => ?_)
  obtain rfl : y3 = nI (5 * j + 2) := e4.trans (nI_add (5 * j) 2)
  refine z_sld (5 * j + 2) hx hb hXs hbl hbA hS rfl (by omega) (by omega) dL_law_1022 ?_
  refine z_callVi2 (As := [.int (xs (5 * j + 1)), .int (xs (5 * j + 2))]) C hzx hS hA hl (k_X7_tag l D cy fX o fa fi nu fm co en ke ev al ra kn vq ge ea ma m_u1 m_u2 m_u3 m_gv m_nl m_gu m_nn ga gr fg pt m_gk m_ln pp wg m_gw m_gh bf m_nf gf fq fk m_fz fc m_nc gc cn m_ge1 m_gn1 m_sq mb m_ks kk m_gx3 m_lk (xs (5 * j + 1)) (xs (5 * j + 2))  hIX) zyX7_tag mML_112 hIX.1 zl7 rfl rfl (Nat.le_of_ble_eq_true rfl) ⟨Nat.le_of_ble_eq_true rfl, Nat.le_of_ble_eq_true rfl⟩ ⟨show 100 + 10 * j + 0 ≤ 600000 by omega, show 3000 + 60 * j + 0 ≤ 7302249 by omega⟩ dL_law_1023 (fun r f1 H locs hp hz1 hS hfr => ?_)
  clear hIX
  refine hp.elim fun v5 h90 => h90.elim fun v6 h91 => h91.elim fun v7 h92 => h92.elim fun v8 h93 => h93.elim fun v9 h94 => h94.elim fun v10 h95 => h95.elim fun v11 h96 => h96.elim fun v12 h97 => h97.elim fun v13 h98 => h98.elim fun v14 h99 => h99.elim fun v15 h910 => h910.elim fun v16 h911 => h911.elim fun v17 h912 => h912.elim fun v18 h913 => h913.elim fun v19 h914 => h914.elim fun v20 h915 => h915.elim fun v21 h916 => h916.elim fun v22 h917 => h917.elim fun v23 h918 => h918.elim fun v24 h919 => h919.elim fun v25 h920 => h920.elim fun v26 h921 => h921.elim fun v27 h922 => h922.elim fun v28 h923 => h923.elim fun v29 h924 => h924.elim fun v30 h925 => h925.elim fun v31 h926 => h926.elim fun v32 h927 => h927.elim fun v33 h928 => h928.elim fun v34 h929 => h929.elim fun v35 h930 => h930.elim fun v36 h931 => h931.elim fun v37 h932 => h932.elim fun v38 h933 => h933.elim fun v39 h934 => ?_
  clear hp h90 h91 h92 h93 h94 h95 h96 h97 h98 h99 h910 h911 h912 h913 h914 h915 h916 h917 h918 h919 h920 h921 h922 h923 h924 h925 h926 h927 h928 h929 h930 h931 h932 h933
  obtain ⟨rfl, e40, e41, e42, e43, e44, e45, e46, e47, e48, e49, e50, e51, e52, e53, e54, e55, e56, e57, e58, e59, e60, e61, e62, e63, hIX⟩ := h934
  obtain ⟨hzm, hd⟩ := hfr fM hzm hd
  have hzx := hz1
  clear hz1 hfr
  obtain ⟨fX, hfx9⟩ : ∃ g : zM, g = f1 := ⟨_, rfl⟩
  rw [← hfx9] at hIX hd hzx
  clear hfx9
  refine lv_topi (fun y64 e65 => ?_)
  obtain rfl : y64 = q_tag m_nf m_fz (fun i j => m_gq (4 * i + j)) m_nn m_gk (xs (5 * j + 1)) (xs (5 * j + 2)) := e65.trans (q_tag_congr hFF hf60)
  refine lv_pop hx hb dL_law_1026 rfl ?_
  refine lv_aload_n hx hb dL_law_1027 rfl (lv_at hl 2 rfl) ?_
  refine lv_aload_n hx hb dL_law_1028 rfl (lv_at hl 0 rfl) ?_
  refine lv_iload_n hx hb dL_law_1029 rfl (lv_at hl 3 rfl) ?_
  refine lv_iconst (v := 1) hx hb dL_law_1030 (by decide) ?_
  refine lv_iadd hx hb dL_law_1031 ?_
  refine lv_topi (fun y66 e67 => ?_)
  obtain rfl : y66 = nI (5 * j + 1) := e67.trans (nI_add (5 * j) 1)
  refine z_sld (5 * j + 1) hx hb hXs hbl hbA hS rfl (by omega) (by omega) dL_law_1032 ?_
  refine lv_aload_n hx hb dL_law_1033 rfl (lv_at hl 0 rfl) ?_
  refine lv_iload_n hx hb dL_law_1034 rfl (lv_at hl 3 rfl) ?_
  refine lv_iconst (v := 2) hx hb dL_law_1035 (by decide) ?_
  refine lv_iadd hx hb dL_law_1036 ?_
  refine lv_topi (fun y68 e69 => ?_)
  obtain rfl : y68 = nI (5 * j + 2) := e69.trans (nI_add (5 * j) 2)
  refine z_sld (5 * j + 2) hx hb hXs hbl hbA hS rfl (by omega) (by omega) dL_law_1037 ?_
  refine z_callVi2 (As := [.int (xs (5 * j + 1)), .int (xs (5 * j + 2))]) C hzm hS hA hl (k_X8_tag l D cy fM mo m_wev m_wnb m_wki m_wmy m_wce m_wiw m_wli m_wha m_wwt m_wfy m_wfk m_wem m_wna m_wpl m_whs m_wk1 m_wk2 m_wk3 m_u1 m_u2 m_u3 m_nl m_nn m_nf m_nc m_lk m_ks m_gv m_gu m_gk m_gm m_gc m_gw m_gl m_gh m_gt m_gy m_gq m_ge1 m_gn1 m_gp1 m_gs m_gx1 m_gx2 m_gx3 m_ln m_fz m_sq (xs (5 * j + 1)) (xs (5 * j + 2))  hIM) zyX8_tag mML_115 hIM.1 zl8 rfl rfl (Nat.le_of_ble_eq_true rfl) ⟨Nat.le_of_ble_eq_true rfl, Nat.le_of_ble_eq_true rfl⟩ ⟨show 100 + 10 * j + 0 + 0 ≤ 600000 by omega, show 3000 + 60 * j + 0 + 0 ≤ 7302249 by omega⟩ dL_law_1038 (fun r f1 H locs hp hz1 hS hfr => ?_)
  clear hIM
  refine hp.elim fun w70 h90 => h90.elim fun w71 h91 => h91.elim fun w72 h92 => h92.elim fun w73 h93 => h93.elim fun w74 h94 => h94.elim fun w75 h95 => h95.elim fun w76 h96 => h96.elim fun w77 h97 => h97.elim fun w78 h98 => h98.elim fun w79 h99 => h99.elim fun w80 h910 => h910.elim fun w81 h911 => h911.elim fun w82 h912 => h912.elim fun w83 h913 => h913.elim fun w84 h914 => h914.elim fun w85 h915 => h915.elim fun w86 h916 => h916.elim fun w87 h917 => h917.elim fun w88 h918 => h918.elim fun w89 h919 => h919.elim fun w90 h920 => h920.elim fun w91 h921 => h921.elim fun w92 h922 => h922.elim fun w93 h923 => h923.elim fun w94 h924 => h924.elim fun w95 h925 => h925.elim fun w96 h926 => h926.elim fun w97 h927 => h927.elim fun w98 h928 => h928.elim fun w99 h929 => ?_
  clear hp h90 h91 h92 h93 h94 h95 h96 h97 h98 h99 h910 h911 h912 h913 h914 h915 h916 h917 h918 h919 h920 h921 h922 h923 h924 h925 h926 h927 h928
  obtain ⟨rfl, e100, e101, e102, e103, e104, e105, e106, e107, e108, e109, e110, e111, e112, e113, e114, e115, e116, e117, e118, e119, e120, e121, e122, e123, e124, hIM⟩ := h929
  obtain ⟨hzx, hd⟩ := hfr fX hzx (z_dsym hd)
  replace hd := z_dsym hd
  have hzm := hz1
  clear hz1 hfr
  obtain ⟨fM, hfm9⟩ : ∃ g : zM, g = f1 := ⟨_, rfl⟩
  rw [← hfm9] at hIM hd hzm
  clear hfm9
  refine lv_pop hx hb dL_law_1041 rfl ?_
  refine lv_goto (tgt := 1358) hx hb dL_law_1042 (by decide) ?_
  refine W.widen (k := 100 + 10 * (j + 1)) (n := 3000 + 60 * (j + 1)) (show 100 + 10 * j + 0 + 0 ≤ 100 + 10 * (j + 1) by omega) (show 3000 + 60 * j + 0 + 0 ≤ 3000 + 60 * (j + 1) by omega) ?_
  have hPC9 : zPC v11 v17 v18 w83 := by rw [e46, e48, e49, e111]; exact hPC
  have hFF9 : zFF v23 v27 v28 w89 := by rw [e52, e53, e54, e114]; exact hFF
  have hRE9 : zRE v29 v32 v33 v34 v35 w92 := by rw [e55, e56, e57, e58, e59, e118]; exact hRE
  have hKR8 : zKR v36 v37 w94 w95 := by rw [e60, e61, e121, e122]; exact hKR
  exact fin _ _ _ (z_LI hIX hIM hzx hzm hd ⟨(e100.trans e40.symm), (e101.trans e41.symm), (e102.trans e42.symm), (e103.trans e43.symm), (e104.trans e44.symm), (e105.trans e45.symm), (e106.trans e46.symm), (e107.trans e47.symm), (e109.trans e50.symm), (e108.trans e48.symm), (e110.trans e51.symm), (e112.trans e52.symm), (e113.trans e53.symm), (e115.trans e55.symm), (e116.trans e56.symm), (e117.trans e57.symm), (e119.trans e58.symm), (e124.trans e63.symm), (e120.trans e60.symm), (e123.trans e62.symm), hPC9, hFF9, hRE9, hKR8⟩) hS (lv_sub hl [0, 1, 2, 3] rfl)
set_option maxHeartbeats 4000000 in
set_option maxRecDepth 100000 in
theorem law_case_23 {p : Program} {l : Launch} {e : Env} {s : State} {m : MethodId} {below : List Frame} {meth : Method} {c : Code} {D : va_G} {cy : Nat → ClassId} {b L : Nat} {xs : Nat → Int32} {o mo j : Nat} (C : zC D cy p s m #[Value.ref b] meth c RL cL_law 4) (hXs : va_X b L xs s s.heap) (hbl : b < s.heap.size) (hbA : ¬ zLA s b) (hL : L ≤ 2560) (hj : 5 * j + 5 ≤ L) (fin : ∀ (H : Heap) (locs : List Loc) (ls : Array Slot), zLI D cy s o mo H → va_S (zLA s) s.heap H locs → lv_has ls 4 [(0, .ref b), (1, .ref o), (2, .ref mo), (3, .int (nI (5 * j)))] → W p l e room_1 s m #[Value.ref b] below meth c H locs (100 + 10 * (j + 1)) (3000 + 60 * (j + 1)) (lw_Z below #[Value.ref b] s) (F0 m 1358 ls [])) {H : Heap} {locs : List Loc} {ls : Array Slot} (hLI : zLI D cy s o mo H) (hS : va_S (zLA s) s.heap H locs) (hl : lv_has ls 4 [(0, .ref b), (1, .ref o), (2, .ref mo), (3, .int (nI (5 * j)))]) : W p l e room_1 s m #[Value.ref b] below meth c H locs (100 + 10 * j) (3000 + 60 * j) (lw_Z below #[Value.ref b] s) (F0 m 1045 ls []) := by
  have hx := C.1
  have hb := C.2.1
  have hA : ∀ q, s.heap.size ≤ q → zLA s q := fun q h => h
  refine Exists.elim hLI fun fX h90 => h90.elim fun fM h91 => h91.elim fun fa h92 => h92.elim fun fi h93 => h93.elim fun nu h94 => h94.elim fun fm h95 => h95.elim fun co h96 => h96.elim fun en h97 => h97.elim fun ke h98 => h98.elim fun ev h99 => h99.elim fun al h910 => h910.elim fun ra h911 => h911.elim fun kn h912 => h912.elim fun vq h913 => h913.elim fun ge h914 => h914.elim fun ea h915 => h915.elim fun ma h916 => h916.elim fun u1 h917 => h917.elim fun u2 h918 => h918.elim fun u3 h919 => h919.elim fun gv h920 => h920.elim fun nl h921 => h921.elim fun gu h922 => h922.elim fun nn h923 => h923.elim fun ga h924 => h924.elim fun gr h925 => h925.elim fun fg h926 => h926.elim fun pt h927 => h927.elim fun kd h928 => h928.elim fun ln h929 => h929.elim fun pp h930 => h930.elim fun wg h931 => h931.elim fun wd h932 => h932.elim fun hs h933 => h933.elim fun bf h934 => h934.elim fun nf h935 => h935.elim fun gf h936 => h936.elim fun fq h937 => h937.elim fun fk h938 => h938.elim fun fz h939 => h939.elim fun fc h940 => h940.elim fun nc h941 => h941.elim fun gc h942 => h942.elim fun cn h943 => h943.elim fun ce h944 => h944.elim fun cm h945 => h945.elim fun sq h946 => h946.elim fun mb h947 => h947.elim fun ks h948 => h948.elim fun kk h949 => h949.elim fun kv h950 => h950.elim fun lk h951 => h951.elim fun m_wev h952 => h952.elim fun m_wnb h953 => h953.elim fun m_wki h954 => h954.elim fun m_wmy h955 => h955.elim fun m_wce h956 => h956.elim fun m_wiw h957 => h957.elim fun m_wli h958 => h958.elim fun m_wha h959 => h959.elim fun m_wwt h960 => h960.elim fun m_wfy h961 => h961.elim fun m_wfk h962 => h962.elim fun m_wem h963 => h963.elim fun m_wna h964 => h964.elim fun m_wpl h965 => h965.elim fun m_whs h966 => h966.elim fun m_wk1 h967 => h967.elim fun m_wk2 h968 => h968.elim fun m_wk3 h969 => h969.elim fun m_u1 h970 => h970.elim fun m_u2 h971 => h971.elim fun m_u3 h972 => h972.elim fun m_nl h973 => h973.elim fun m_nn h974 => h974.elim fun m_nf h975 => h975.elim fun m_nc h976 => h976.elim fun m_lk h977 => h977.elim fun m_ks h978 => h978.elim fun m_gv h979 => h979.elim fun m_gu h980 => h980.elim fun m_gk h981 => h981.elim fun m_gm h982 => h982.elim fun m_gc h983 => h983.elim fun m_gw h984 => h984.elim fun m_gl h985 => h985.elim fun m_gh h986 => h986.elim fun m_gt h987 => h987.elim fun m_gy h988 => h988.elim fun m_gq h989 => h989.elim fun m_ge1 h990 => h990.elim fun m_gn1 h991 => h991.elim fun m_gp1 h992 => h992.elim fun m_gs h993 => h993.elim fun m_gx1 h994 => h994.elim fun m_gx2 h995 => h995.elim fun m_gx3 h996 => h996.elim fun m_ln h997 => h997.elim fun m_fz h998 => h998.elim fun m_sq h999 => ?_
  clear hLI h90 h91 h92 h93 h94 h95 h96 h97 h98 h99 h910 h911 h912 h913 h914 h915 h916 h917 h918 h919 h920 h921 h922 h923 h924 h925 h926 h927 h928 h929 h930 h931 h932 h933 h934 h935 h936 h937 h938 h939 h940 h941 h942 h943 h944 h945 h946 h947 h948 h949 h950 h951 h952 h953 h954 h955 h956 h957 h958 h959 h960 h961 h962 h963 h964 h965 h966 h967 h968 h969 h970 h971 h972 h973 h974 h975 h976 h977 h978 h979 h980 h981 h982 h983 h984 h985 h986 h987 h988 h989 h990 h991 h992 h993 h994 h995 h996 h997 h998
  obtain ⟨hIX, hIM, hzx, hzm, hd, rfl, rfl, rfl, rfl, rfl, rfl, rfl, rfl, rfl, rfl, rfl, rfl, rfl, rfl, rfl, rfl, rfl, rfl, rfl, rfl, hPC, hFF, hRE, hKR⟩ := h999
  have hl15 := zIM_ln hIM
  have hfz4 := zIM_fz hIM
  have hn60 := zIM_n60 hIM
  have hf60 := zIM_f60 hIM
  have hc60 := zIM_c60 hIM
  have hs40 := zIM_s40 hIM
  refine lv_aload_n hx hb dL_law_1045 rfl (lv_at hl 1 rfl) ?_
  refine lv_aload_n hx hb dL_law_1046 rfl (lv_at hl 0 rfl) ?_
  refine lv_iload_n hx hb dL_law_1047 rfl (lv_at hl 3 rfl) ?_
  refine lv_iconst (v := 1) hx hb dL_law_1048 (by decide) ?_
  refine lv_iadd hx hb dL_law_1049 ?_
  refine lv_topi (fun y1 e2 => ?_)
  obtain rfl : y1 = nI (5 * j + 1) := e2.trans (nI_add (5 * j) 1)
  refine z_sld (5 * j + 1) hx hb hXs hbl hbA hS rfl (by omega) (by omega) dL_law_1050 ?_
  refine lv_aload_n hx hb dL_law_1051 rfl (lv_at hl 0 rfl) ?_
  refine lv_iload_n hx hb dL_law_1052 rfl (lv_at hl 3 rfl) ?_
  refine lv_iconst (v := 2) hx hb dL_law_1053 (by decide) ?_
  refine lv_iadd hx hb dL_law_1054 ?_
  refine lv_topi (fun y3 e4 => ?_)
  obtain rfl : y3 = nI (5 * j + 2) := e4.trans (nI_add (5 * j) 2)
  refine z_sld (5 * j + 2) hx hb hXs hbl hbA hS rfl (by omega) (by omega) dL_law_1055 ?_
  refine z_callVi2 (As := [.int (xs (5 * j + 1)), .int (xs (5 * j + 2))]) C hzx hS hA hl (k_X7_tagged l D cy fX o fa fi nu fm co en ke ev al ra kn vq ge ea ma m_u1 m_u2 m_u3 m_gv m_nl m_gu m_nn ga gr fg pt m_gk m_ln pp wg m_gw m_gh bf m_nf gf fq fk m_fz fc m_nc gc cn m_ge1 m_gn1 m_sq mb m_ks kk m_gx3 m_lk (xs (5 * j + 1)) (xs (5 * j + 2))  hIX) zyX7_tagged mML_116 hIX.1 zl7 rfl rfl (Nat.le_of_ble_eq_true rfl) ⟨Nat.le_of_ble_eq_true rfl, Nat.le_of_ble_eq_true rfl⟩ ⟨show 100 + 10 * j + 0 ≤ 600000 by omega, show 3000 + 60 * j + 0 ≤ 7302249 by omega⟩ dL_law_1056 (fun r f1 H locs hp hz1 hS hfr => ?_)
  clear hIX
  refine hp.elim fun v5 h90 => h90.elim fun v6 h91 => h91.elim fun v7 h92 => h92.elim fun v8 h93 => h93.elim fun v9 h94 => h94.elim fun v10 h95 => h95.elim fun v11 h96 => h96.elim fun v12 h97 => h97.elim fun v13 h98 => h98.elim fun v14 h99 => h99.elim fun v15 h910 => h910.elim fun v16 h911 => h911.elim fun v17 h912 => h912.elim fun v18 h913 => h913.elim fun v19 h914 => h914.elim fun v20 h915 => h915.elim fun v21 h916 => h916.elim fun v22 h917 => h917.elim fun v23 h918 => h918.elim fun v24 h919 => h919.elim fun v25 h920 => h920.elim fun v26 h921 => h921.elim fun v27 h922 => h922.elim fun v28 h923 => h923.elim fun v29 h924 => h924.elim fun v30 h925 => h925.elim fun v31 h926 => h926.elim fun v32 h927 => h927.elim fun v33 h928 => h928.elim fun v34 h929 => h929.elim fun v35 h930 => h930.elim fun v36 h931 => h931.elim fun v37 h932 => h932.elim fun v38 h933 => h933.elim fun v39 h934 => ?_
  clear hp h90 h91 h92 h93 h94 h95 h96 h97 h98 h99 h910 h911 h912 h913 h914 h915 h916 h917 h918 h919 h920 h921 h922 h923 h924 h925 h926 h927 h928 h929 h930 h931 h932 h933
  obtain ⟨rfl, e40, e41, e42, e43, e44, e45, e46, e47, e48, e49, e50, e51, e52, e53, e54, e55, e56, e57, e58, e59, e60, e61, e62, e63, hIX⟩ := h934
  obtain ⟨hzm, hd⟩ := hfr fM hzm hd
  have hzx := hz1
  clear hz1 hfr
  obtain ⟨fX, hfx9⟩ : ∃ g : zM, g = f1 := ⟨_, rfl⟩
  rw [← hfx9] at hIX hd hzx
  clear hfx9
  refine lv_topi (fun y64 e65 => ?_)
  obtain rfl : y64 = q_tagged m_nf m_fz (fun i j => m_gq (4 * i + j)) m_nn m_gk (xs (5 * j + 1)) (xs (5 * j + 2)) := e65.trans (q_tagged_congr hFF hf60)
  refine lv_pop hx hb dL_law_1059 rfl ?_
  refine lv_aload_n hx hb dL_law_1060 rfl (lv_at hl 2 rfl) ?_
  refine lv_aload_n hx hb dL_law_1061 rfl (lv_at hl 0 rfl) ?_
  refine lv_iload_n hx hb dL_law_1062 rfl (lv_at hl 3 rfl) ?_
  refine lv_iconst (v := 1) hx hb dL_law_1063 (by decide) ?_
  refine lv_iadd hx hb dL_law_1064 ?_
  refine lv_topi (fun y66 e67 => ?_)
  obtain rfl : y66 = nI (5 * j + 1) := e67.trans (nI_add (5 * j) 1)
  refine z_sld (5 * j + 1) hx hb hXs hbl hbA hS rfl (by omega) (by omega) dL_law_1065 ?_
  refine lv_aload_n hx hb dL_law_1066 rfl (lv_at hl 0 rfl) ?_
  refine lv_iload_n hx hb dL_law_1067 rfl (lv_at hl 3 rfl) ?_
  refine lv_iconst (v := 2) hx hb dL_law_1068 (by decide) ?_
  refine lv_iadd hx hb dL_law_1069 ?_
  refine lv_topi (fun y68 e69 => ?_)
  obtain rfl : y68 = nI (5 * j + 2) := e69.trans (nI_add (5 * j) 2)
  refine z_sld (5 * j + 2) hx hb hXs hbl hbA hS rfl (by omega) (by omega) dL_law_1070 ?_
  refine z_callVi2 (As := [.int (xs (5 * j + 1)), .int (xs (5 * j + 2))]) C hzm hS hA hl (k_X8_tagged l D cy fM mo m_wev m_wnb m_wki m_wmy m_wce m_wiw m_wli m_wha m_wwt m_wfy m_wfk m_wem m_wna m_wpl m_whs m_wk1 m_wk2 m_wk3 m_u1 m_u2 m_u3 m_nl m_nn m_nf m_nc m_lk m_ks m_gv m_gu m_gk m_gm m_gc m_gw m_gl m_gh m_gt m_gy m_gq m_ge1 m_gn1 m_gp1 m_gs m_gx1 m_gx2 m_gx3 m_ln m_fz m_sq (xs (5 * j + 1)) (xs (5 * j + 2))  hIM) zyX8_tagged mML_119 hIM.1 zl8 rfl rfl (Nat.le_of_ble_eq_true rfl) ⟨Nat.le_of_ble_eq_true rfl, Nat.le_of_ble_eq_true rfl⟩ ⟨show 100 + 10 * j + 0 + 0 ≤ 600000 by omega, show 3000 + 60 * j + 0 + 0 ≤ 7302249 by omega⟩ dL_law_1071 (fun r f1 H locs hp hz1 hS hfr => ?_)
  clear hIM
  refine hp.elim fun w70 h90 => h90.elim fun w71 h91 => h91.elim fun w72 h92 => h92.elim fun w73 h93 => h93.elim fun w74 h94 => h94.elim fun w75 h95 => h95.elim fun w76 h96 => h96.elim fun w77 h97 => h97.elim fun w78 h98 => h98.elim fun w79 h99 => h99.elim fun w80 h910 => h910.elim fun w81 h911 => h911.elim fun w82 h912 => h912.elim fun w83 h913 => h913.elim fun w84 h914 => h914.elim fun w85 h915 => h915.elim fun w86 h916 => h916.elim fun w87 h917 => h917.elim fun w88 h918 => h918.elim fun w89 h919 => h919.elim fun w90 h920 => h920.elim fun w91 h921 => h921.elim fun w92 h922 => h922.elim fun w93 h923 => h923.elim fun w94 h924 => h924.elim fun w95 h925 => h925.elim fun w96 h926 => h926.elim fun w97 h927 => h927.elim fun w98 h928 => h928.elim fun w99 h929 => ?_
  clear hp h90 h91 h92 h93 h94 h95 h96 h97 h98 h99 h910 h911 h912 h913 h914 h915 h916 h917 h918 h919 h920 h921 h922 h923 h924 h925 h926 h927 h928
  obtain ⟨rfl, e100, e101, e102, e103, e104, e105, e106, e107, e108, e109, e110, e111, e112, e113, e114, e115, e116, e117, e118, e119, e120, e121, e122, e123, e124, hIM⟩ := h929
  obtain ⟨hzx, hd⟩ := hfr fX hzx (z_dsym hd)
  replace hd := z_dsym hd
  have hzm := hz1
  clear hz1 hfr
  obtain ⟨fM, hfm9⟩ : ∃ g : zM, g = f1 := ⟨_, rfl⟩
  rw [← hfm9] at hIM hd hzm
  clear hfm9
  refine lv_pop hx hb dL_law_1074 rfl ?_
  refine lv_goto (tgt := 1358) hx hb dL_law_1075 (by decide) ?_
  refine W.widen (k := 100 + 10 * (j + 1)) (n := 3000 + 60 * (j + 1)) (show 100 + 10 * j + 0 + 0 ≤ 100 + 10 * (j + 1) by omega) (show 3000 + 60 * j + 0 + 0 ≤ 3000 + 60 * (j + 1) by omega) ?_
  have hPC9 : zPC v11 v17 v18 w83 := by rw [e46, e48, e49, e111]; exact hPC
  have hFF9 : zFF v23 v27 v28 w89 := by rw [e52, e53, e54, e114]; exact hFF
  have hRE9 : zRE v29 v32 v33 v34 v35 w92 := by rw [e55, e56, e57, e58, e59, e118]; exact hRE
  have hKR8 : zKR v36 v37 w94 w95 := by rw [e60, e61, e121, e122]; exact hKR
  exact fin _ _ _ (z_LI hIX hIM hzx hzm hd ⟨(e100.trans e40.symm), (e101.trans e41.symm), (e102.trans e42.symm), (e103.trans e43.symm), (e104.trans e44.symm), (e105.trans e45.symm), (e106.trans e46.symm), (e107.trans e47.symm), (e109.trans e50.symm), (e108.trans e48.symm), (e110.trans e51.symm), (e112.trans e52.symm), (e113.trans e53.symm), (e115.trans e55.symm), (e116.trans e56.symm), (e117.trans e57.symm), (e119.trans e58.symm), (e124.trans e63.symm), (e120.trans e60.symm), (e123.trans e62.symm), hPC9, hFF9, hRE9, hKR8⟩) hS (lv_sub hl [0, 1, 2, 3] rfl)
set_option maxHeartbeats 4000000 in
set_option maxRecDepth 100000 in
theorem law_case_24 {p : Program} {l : Launch} {e : Env} {s : State} {m : MethodId} {below : List Frame} {meth : Method} {c : Code} {D : va_G} {cy : Nat → ClassId} {b L : Nat} {xs : Nat → Int32} {o mo j : Nat} (C : zC D cy p s m #[Value.ref b] meth c RL cL_law 4) (hXs : va_X b L xs s s.heap) (hbl : b < s.heap.size) (hbA : ¬ zLA s b) (hL : L ≤ 2560) (hj : 5 * j + 5 ≤ L) (fin : ∀ (H : Heap) (locs : List Loc) (ls : Array Slot), zLI D cy s o mo H → va_S (zLA s) s.heap H locs → lv_has ls 4 [(0, .ref b), (1, .ref o), (2, .ref mo), (3, .int (nI (5 * j)))] → W p l e room_1 s m #[Value.ref b] below meth c H locs (100 + 10 * (j + 1)) (3000 + 60 * (j + 1)) (lw_Z below #[Value.ref b] s) (F0 m 1358 ls [])) {H : Heap} {locs : List Loc} {ls : Array Slot} (hLI : zLI D cy s o mo H) (hS : va_S (zLA s) s.heap H locs) (hl : lv_has ls 4 [(0, .ref b), (1, .ref o), (2, .ref mo), (3, .int (nI (5 * j)))]) : W p l e room_1 s m #[Value.ref b] below meth c H locs (100 + 10 * j) (3000 + 60 * j) (lw_Z below #[Value.ref b] s) (F0 m 1078 ls []) := by
  have hx := C.1
  have hb := C.2.1
  have hA : ∀ q, s.heap.size ≤ q → zLA s q := fun q h => h
  refine Exists.elim hLI fun fX h90 => h90.elim fun fM h91 => h91.elim fun fa h92 => h92.elim fun fi h93 => h93.elim fun nu h94 => h94.elim fun fm h95 => h95.elim fun co h96 => h96.elim fun en h97 => h97.elim fun ke h98 => h98.elim fun ev h99 => h99.elim fun al h910 => h910.elim fun ra h911 => h911.elim fun kn h912 => h912.elim fun vq h913 => h913.elim fun ge h914 => h914.elim fun ea h915 => h915.elim fun ma h916 => h916.elim fun u1 h917 => h917.elim fun u2 h918 => h918.elim fun u3 h919 => h919.elim fun gv h920 => h920.elim fun nl h921 => h921.elim fun gu h922 => h922.elim fun nn h923 => h923.elim fun ga h924 => h924.elim fun gr h925 => h925.elim fun fg h926 => h926.elim fun pt h927 => h927.elim fun kd h928 => h928.elim fun ln h929 => h929.elim fun pp h930 => h930.elim fun wg h931 => h931.elim fun wd h932 => h932.elim fun hs h933 => h933.elim fun bf h934 => h934.elim fun nf h935 => h935.elim fun gf h936 => h936.elim fun fq h937 => h937.elim fun fk h938 => h938.elim fun fz h939 => h939.elim fun fc h940 => h940.elim fun nc h941 => h941.elim fun gc h942 => h942.elim fun cn h943 => h943.elim fun ce h944 => h944.elim fun cm h945 => h945.elim fun sq h946 => h946.elim fun mb h947 => h947.elim fun ks h948 => h948.elim fun kk h949 => h949.elim fun kv h950 => h950.elim fun lk h951 => h951.elim fun m_wev h952 => h952.elim fun m_wnb h953 => h953.elim fun m_wki h954 => h954.elim fun m_wmy h955 => h955.elim fun m_wce h956 => h956.elim fun m_wiw h957 => h957.elim fun m_wli h958 => h958.elim fun m_wha h959 => h959.elim fun m_wwt h960 => h960.elim fun m_wfy h961 => h961.elim fun m_wfk h962 => h962.elim fun m_wem h963 => h963.elim fun m_wna h964 => h964.elim fun m_wpl h965 => h965.elim fun m_whs h966 => h966.elim fun m_wk1 h967 => h967.elim fun m_wk2 h968 => h968.elim fun m_wk3 h969 => h969.elim fun m_u1 h970 => h970.elim fun m_u2 h971 => h971.elim fun m_u3 h972 => h972.elim fun m_nl h973 => h973.elim fun m_nn h974 => h974.elim fun m_nf h975 => h975.elim fun m_nc h976 => h976.elim fun m_lk h977 => h977.elim fun m_ks h978 => h978.elim fun m_gv h979 => h979.elim fun m_gu h980 => h980.elim fun m_gk h981 => h981.elim fun m_gm h982 => h982.elim fun m_gc h983 => h983.elim fun m_gw h984 => h984.elim fun m_gl h985 => h985.elim fun m_gh h986 => h986.elim fun m_gt h987 => h987.elim fun m_gy h988 => h988.elim fun m_gq h989 => h989.elim fun m_ge1 h990 => h990.elim fun m_gn1 h991 => h991.elim fun m_gp1 h992 => h992.elim fun m_gs h993 => h993.elim fun m_gx1 h994 => h994.elim fun m_gx2 h995 => h995.elim fun m_gx3 h996 => h996.elim fun m_ln h997 => h997.elim fun m_fz h998 => h998.elim fun m_sq h999 => ?_
  clear hLI h90 h91 h92 h93 h94 h95 h96 h97 h98 h99 h910 h911 h912 h913 h914 h915 h916 h917 h918 h919 h920 h921 h922 h923 h924 h925 h926 h927 h928 h929 h930 h931 h932 h933 h934 h935 h936 h937 h938 h939 h940 h941 h942 h943 h944 h945 h946 h947 h948 h949 h950 h951 h952 h953 h954 h955 h956 h957 h958 h959 h960 h961 h962 h963 h964 h965 h966 h967 h968 h969 h970 h971 h972 h973 h974 h975 h976 h977 h978 h979 h980 h981 h982 h983 h984 h985 h986 h987 h988 h989 h990 h991 h992 h993 h994 h995 h996 h997 h998
  obtain ⟨hIX, hIM, hzx, hzm, hd, rfl, rfl, rfl, rfl, rfl, rfl, rfl, rfl, rfl, rfl, rfl, rfl, rfl, rfl, rfl, rfl, rfl, rfl, rfl, rfl, hPC, hFF, hRE, hKR⟩ := h999
  have hl15 := zIM_ln hIM
  have hfz4 := zIM_fz hIM
  have hn60 := zIM_n60 hIM
  have hf60 := zIM_f60 hIM
  have hc60 := zIM_c60 hIM
  have hs40 := zIM_s40 hIM
  refine lv_aload_n hx hb dL_law_1078 rfl (lv_at hl 1 rfl) ?_
  refine lv_aload_n hx hb dL_law_1079 rfl (lv_at hl 0 rfl) ?_
  refine lv_iload_n hx hb dL_law_1080 rfl (lv_at hl 3 rfl) ?_
  refine lv_iconst (v := 1) hx hb dL_law_1081 (by decide) ?_
  refine lv_iadd hx hb dL_law_1082 ?_
  refine lv_topi (fun y1 e2 => ?_)
  obtain rfl : y1 = nI (5 * j + 1) := e2.trans (nI_add (5 * j) 1)
  refine z_sld (5 * j + 1) hx hb hXs hbl hbA hS rfl (by omega) (by omega) dL_law_1083 ?_
  refine lv_aload_n hx hb dL_law_1084 rfl (lv_at hl 0 rfl) ?_
  refine lv_iload_n hx hb dL_law_1085 rfl (lv_at hl 3 rfl) ?_
  refine lv_iconst (v := 2) hx hb dL_law_1086 (by decide) ?_
  refine lv_iadd hx hb dL_law_1087 ?_
  refine lv_topi (fun y3 e4 => ?_)
  obtain rfl : y3 = nI (5 * j + 2) := e4.trans (nI_add (5 * j) 2)
  refine z_sld (5 * j + 2) hx hb hXs hbl hbA hS rfl (by omega) (by omega) dL_law_1088 ?_
  refine z_callVi2 (As := [.int (xs (5 * j + 1)), .int (xs (5 * j + 2))]) C hzx hS hA hl (k_X7_constant l D cy fX o fa fi nu fm co en ke ev al ra kn vq ge ea ma m_u1 m_u2 m_u3 m_gv m_nl m_gu m_nn ga gr fg pt m_gk m_ln pp wg m_gw m_gh bf m_nf gf fq fk m_fz fc m_nc gc cn m_ge1 m_gn1 m_sq mb m_ks kk m_gx3 m_lk (xs (5 * j + 1)) (xs (5 * j + 2))  hIX) zyX7_constant mML_120 hIX.1 zl7 rfl rfl (Nat.le_of_ble_eq_true rfl) ⟨Nat.le_of_ble_eq_true rfl, Nat.le_of_ble_eq_true rfl⟩ ⟨show 100 + 10 * j + 1 ≤ 600000 by omega, show 3000 + 60 * j + 2 ≤ 7302249 by omega⟩ dL_law_1089 (fun r5 f1 H locs hp hz1 hS hfr => ?_)
  clear hIX
  refine hp.elim fun v6 h90 => h90.elim fun v7 h91 => h91.elim fun v8 h92 => h92.elim fun v9 h93 => h93.elim fun v10 h94 => h94.elim fun v11 h95 => h95.elim fun v12 h96 => h96.elim fun v13 h97 => h97.elim fun v14 h98 => h98.elim fun v15 h99 => h99.elim fun v16 h910 => h910.elim fun v17 h911 => h911.elim fun v18 h912 => h912.elim fun v19 h913 => h913.elim fun v20 h914 => h914.elim fun v21 h915 => h915.elim fun v22 h916 => h916.elim fun v23 h917 => h917.elim fun v24 h918 => h918.elim fun v25 h919 => h919.elim fun v26 h920 => h920.elim fun v27 h921 => h921.elim fun v28 h922 => h922.elim fun v29 h923 => h923.elim fun v30 h924 => h924.elim fun v31 h925 => h925.elim fun v32 h926 => h926.elim fun v33 h927 => h927.elim fun v34 h928 => h928.elim fun v35 h929 => h929.elim fun v36 h930 => h930.elim fun v37 h931 => h931.elim fun v38 h932 => h932.elim fun v39 h933 => h933.elim fun v40 h934 => ?_
  clear hp h90 h91 h92 h93 h94 h95 h96 h97 h98 h99 h910 h911 h912 h913 h914 h915 h916 h917 h918 h919 h920 h921 h922 h923 h924 h925 h926 h927 h928 h929 h930 h931 h932 h933
  obtain ⟨e41, e42, e43, e44, e45, e46, e47, e48, e49, e50, e51, e52, e53, e54, e55, e56, e57, e58, e59, e60, e61, e62, e63, e64, e65, hIX⟩ := h934
  obtain ⟨hzm, hd⟩ := hfr fM hzm hd
  have hzx := hz1
  clear hz1 hfr
  obtain ⟨fX, hfx9⟩ : ∃ g : zM, g = f1 := ⟨_, rfl⟩
  rw [← hfx9] at hIX hd hzx
  clear hfx9
  refine lv_pop hx hb dL_law_1092 rfl ?_
  refine lv_aload_n hx hb dL_law_1093 rfl (lv_at hl 2 rfl) ?_
  refine lv_aload_n hx hb dL_law_1094 rfl (lv_at hl 0 rfl) ?_
  refine lv_iload_n hx hb dL_law_1095 rfl (lv_at hl 3 rfl) ?_
  refine lv_iconst (v := 1) hx hb dL_law_1096 (by decide) ?_
  refine lv_iadd hx hb dL_law_1097 ?_
  refine lv_topi (fun y66 e67 => ?_)
  obtain rfl : y66 = nI (5 * j + 1) := e67.trans (nI_add (5 * j) 1)
  refine z_sld (5 * j + 1) hx hb hXs hbl hbA hS rfl (by omega) (by omega) dL_law_1098 ?_
  refine lv_aload_n hx hb dL_law_1099 rfl (lv_at hl 0 rfl) ?_
  refine lv_iload_n hx hb dL_law_1100 rfl (lv_at hl 3 rfl) ?_
  refine lv_iconst (v := 2) hx hb dL_law_1101 (by decide) ?_
  refine lv_iadd hx hb dL_law_1102 ?_
  refine lv_topi (fun y68 e69 => ?_)
  obtain rfl : y68 = nI (5 * j + 2) := e69.trans (nI_add (5 * j) 2)
  refine z_sld (5 * j + 2) hx hb hXs hbl hbA hS rfl (by omega) (by omega) dL_law_1103 ?_
  refine z_callVi2 (As := [.int (xs (5 * j + 1)), .int (xs (5 * j + 2))]) C hzm hS hA hl (k_X8_constant l D cy fM mo m_wev m_wnb m_wki m_wmy m_wce m_wiw m_wli m_wha m_wwt m_wfy m_wfk m_wem m_wna m_wpl m_whs m_wk1 m_wk2 m_wk3 m_u1 m_u2 m_u3 m_nl m_nn m_nf m_nc m_lk m_ks m_gv m_gu m_gk m_gm m_gc m_gw m_gl m_gh m_gt m_gy m_gq m_ge1 m_gn1 m_gp1 m_gs m_gx1 m_gx2 m_gx3 m_ln m_fz m_sq (xs (5 * j + 1)) (xs (5 * j + 2))  hIM) zyX8_constant mML_123 hIM.1 zl8 rfl rfl (Nat.le_of_ble_eq_true rfl) ⟨Nat.le_of_ble_eq_true rfl, Nat.le_of_ble_eq_true rfl⟩ ⟨show 100 + 10 * j + 1 + 0 ≤ 600000 by omega, show 3000 + 60 * j + 2 + 0 ≤ 7302249 by omega⟩ dL_law_1104 (fun r70 f1 H locs hp hz1 hS hfr => ?_)
  clear hIM
  refine hp.elim fun w71 h90 => h90.elim fun w72 h91 => h91.elim fun w73 h92 => h92.elim fun w74 h93 => h93.elim fun w75 h94 => h94.elim fun w76 h95 => h95.elim fun w77 h96 => h96.elim fun w78 h97 => h97.elim fun w79 h98 => h98.elim fun w80 h99 => h99.elim fun w81 h910 => h910.elim fun w82 h911 => h911.elim fun w83 h912 => h912.elim fun w84 h913 => h913.elim fun w85 h914 => h914.elim fun w86 h915 => h915.elim fun w87 h916 => h916.elim fun w88 h917 => h917.elim fun w89 h918 => h918.elim fun w90 h919 => h919.elim fun w91 h920 => h920.elim fun w92 h921 => h921.elim fun w93 h922 => h922.elim fun w94 h923 => h923.elim fun w95 h924 => h924.elim fun w96 h925 => h925.elim fun w97 h926 => h926.elim fun w98 h927 => h927.elim fun w99 h928 => h928.elim fun w100 h929 => ?_
  clear hp h90 h91 h92 h93 h94 h95 h96 h97 h98 h99 h910 h911 h912 h913 h914 h915 h916 h917 h918 h919 h920 h921 h922 h923 h924 h925 h926 h927 h928
  obtain ⟨e101, e102, e103, e104, e105, e106, e107, e108, e109, e110, e111, e112, e113, e114, e115, e116, e117, e118, e119, e120, e121, e122, e123, e124, e125, e126, hIM⟩ := h929
  obtain ⟨hzx, hd⟩ := hfr fX hzx (z_dsym hd)
  replace hd := z_dsym hd
  have hzm := hz1
  clear hz1 hfr
  obtain ⟨fM, hfm9⟩ : ∃ g : zM, g = f1 := ⟨_, rfl⟩
  rw [← hfm9] at hIM hd hzm
  clear hfm9
  obtain ⟨hr9, hRE8⟩ := law_constant hRE hc60 e65 e126
  subst hr9
  refine lv_pop hx hb dL_law_1107 rfl ?_
  refine lv_goto (tgt := 1358) hx hb dL_law_1108 (by decide) ?_
  refine W.widen (k := 100 + 10 * (j + 1)) (n := 3000 + 60 * (j + 1)) (show 100 + 10 * j + 1 + 0 ≤ 100 + 10 * (j + 1) by omega) (show 3000 + 60 * j + 2 + 0 ≤ 3000 + 60 * (j + 1) by omega) ?_
  have hPC9 : zPC v12 v18 v19 w84 := by rw [e47, e49, e50, e112]; exact hPC
  have hFF9 : zFF v24 v28 v29 w90 := by rw [e53, e54, e55, e115]; exact hFF
  have hRE9 : zRE v30 v33 v34 v35 v36 w93 := by rw [e56, e57, e58, e59, e60, e119]; exact hRE8
  have hKR8 : zKR v37 v38 w95 w96 := by rw [e61, e62, e122, e123]; exact hKR
  exact fin _ _ _ (z_LI hIX hIM hzx hzm hd ⟨(e101.trans e41.symm), (e102.trans e42.symm), (e103.trans e43.symm), (e104.trans e44.symm), (e105.trans e45.symm), (e106.trans e46.symm), (e107.trans e47.symm), (e108.trans e48.symm), (e110.trans e51.symm), (e109.trans e49.symm), (e111.trans e52.symm), (e113.trans e53.symm), (e114.trans e54.symm), (e116.trans e56.symm), (e117.trans e57.symm), (e118.trans e58.symm), (e120.trans e59.symm), (e125.trans e64.symm), (e121.trans e61.symm), (e124.trans e63.symm), hPC9, hFF9, hRE9, hKR8⟩) hS (lv_sub hl [0, 1, 2, 3] rfl)
set_option maxHeartbeats 4000000 in
set_option maxRecDepth 100000 in
theorem law_case_25 {p : Program} {l : Launch} {e : Env} {s : State} {m : MethodId} {below : List Frame} {meth : Method} {c : Code} {D : va_G} {cy : Nat → ClassId} {b L : Nat} {xs : Nat → Int32} {o mo j : Nat} (C : zC D cy p s m #[Value.ref b] meth c RL cL_law 4) (hXs : va_X b L xs s s.heap) (hbl : b < s.heap.size) (hbA : ¬ zLA s b) (hL : L ≤ 2560) (hj : 5 * j + 5 ≤ L) (fin : ∀ (H : Heap) (locs : List Loc) (ls : Array Slot), zLI D cy s o mo H → va_S (zLA s) s.heap H locs → lv_has ls 4 [(0, .ref b), (1, .ref o), (2, .ref mo), (3, .int (nI (5 * j)))] → W p l e room_1 s m #[Value.ref b] below meth c H locs (100 + 10 * (j + 1)) (3000 + 60 * (j + 1)) (lw_Z below #[Value.ref b] s) (F0 m 1358 ls [])) {H : Heap} {locs : List Loc} {ls : Array Slot} (hLI : zLI D cy s o mo H) (hS : va_S (zLA s) s.heap H locs) (hl : lv_has ls 4 [(0, .ref b), (1, .ref o), (2, .ref mo), (3, .int (nI (5 * j)))]) : W p l e room_1 s m #[Value.ref b] below meth c H locs (100 + 10 * j) (3000 + 60 * j) (lw_Z below #[Value.ref b] s) (F0 m 1111 ls []) := by
  have hx := C.1
  have hb := C.2.1
  have hA : ∀ q, s.heap.size ≤ q → zLA s q := fun q h => h
  refine Exists.elim hLI fun fX h90 => h90.elim fun fM h91 => h91.elim fun fa h92 => h92.elim fun fi h93 => h93.elim fun nu h94 => h94.elim fun fm h95 => h95.elim fun co h96 => h96.elim fun en h97 => h97.elim fun ke h98 => h98.elim fun ev h99 => h99.elim fun al h910 => h910.elim fun ra h911 => h911.elim fun kn h912 => h912.elim fun vq h913 => h913.elim fun ge h914 => h914.elim fun ea h915 => h915.elim fun ma h916 => h916.elim fun u1 h917 => h917.elim fun u2 h918 => h918.elim fun u3 h919 => h919.elim fun gv h920 => h920.elim fun nl h921 => h921.elim fun gu h922 => h922.elim fun nn h923 => h923.elim fun ga h924 => h924.elim fun gr h925 => h925.elim fun fg h926 => h926.elim fun pt h927 => h927.elim fun kd h928 => h928.elim fun ln h929 => h929.elim fun pp h930 => h930.elim fun wg h931 => h931.elim fun wd h932 => h932.elim fun hs h933 => h933.elim fun bf h934 => h934.elim fun nf h935 => h935.elim fun gf h936 => h936.elim fun fq h937 => h937.elim fun fk h938 => h938.elim fun fz h939 => h939.elim fun fc h940 => h940.elim fun nc h941 => h941.elim fun gc h942 => h942.elim fun cn h943 => h943.elim fun ce h944 => h944.elim fun cm h945 => h945.elim fun sq h946 => h946.elim fun mb h947 => h947.elim fun ks h948 => h948.elim fun kk h949 => h949.elim fun kv h950 => h950.elim fun lk h951 => h951.elim fun m_wev h952 => h952.elim fun m_wnb h953 => h953.elim fun m_wki h954 => h954.elim fun m_wmy h955 => h955.elim fun m_wce h956 => h956.elim fun m_wiw h957 => h957.elim fun m_wli h958 => h958.elim fun m_wha h959 => h959.elim fun m_wwt h960 => h960.elim fun m_wfy h961 => h961.elim fun m_wfk h962 => h962.elim fun m_wem h963 => h963.elim fun m_wna h964 => h964.elim fun m_wpl h965 => h965.elim fun m_whs h966 => h966.elim fun m_wk1 h967 => h967.elim fun m_wk2 h968 => h968.elim fun m_wk3 h969 => h969.elim fun m_u1 h970 => h970.elim fun m_u2 h971 => h971.elim fun m_u3 h972 => h972.elim fun m_nl h973 => h973.elim fun m_nn h974 => h974.elim fun m_nf h975 => h975.elim fun m_nc h976 => h976.elim fun m_lk h977 => h977.elim fun m_ks h978 => h978.elim fun m_gv h979 => h979.elim fun m_gu h980 => h980.elim fun m_gk h981 => h981.elim fun m_gm h982 => h982.elim fun m_gc h983 => h983.elim fun m_gw h984 => h984.elim fun m_gl h985 => h985.elim fun m_gh h986 => h986.elim fun m_gt h987 => h987.elim fun m_gy h988 => h988.elim fun m_gq h989 => h989.elim fun m_ge1 h990 => h990.elim fun m_gn1 h991 => h991.elim fun m_gp1 h992 => h992.elim fun m_gs h993 => h993.elim fun m_gx1 h994 => h994.elim fun m_gx2 h995 => h995.elim fun m_gx3 h996 => h996.elim fun m_ln h997 => h997.elim fun m_fz h998 => h998.elim fun m_sq h999 => ?_
  clear hLI h90 h91 h92 h93 h94 h95 h96 h97 h98 h99 h910 h911 h912 h913 h914 h915 h916 h917 h918 h919 h920 h921 h922 h923 h924 h925 h926 h927 h928 h929 h930 h931 h932 h933 h934 h935 h936 h937 h938 h939 h940 h941 h942 h943 h944 h945 h946 h947 h948 h949 h950 h951 h952 h953 h954 h955 h956 h957 h958 h959 h960 h961 h962 h963 h964 h965 h966 h967 h968 h969 h970 h971 h972 h973 h974 h975 h976 h977 h978 h979 h980 h981 h982 h983 h984 h985 h986 h987 h988 h989 h990 h991 h992 h993 h994 h995 h996 h997 h998
  obtain ⟨hIX, hIM, hzx, hzm, hd, rfl, rfl, rfl, rfl, rfl, rfl, rfl, rfl, rfl, rfl, rfl, rfl, rfl, rfl, rfl, rfl, rfl, rfl, rfl, rfl, hPC, hFF, hRE, hKR⟩ := h999
  have hl15 := zIM_ln hIM
  have hfz4 := zIM_fz hIM
  have hn60 := zIM_n60 hIM
  have hf60 := zIM_f60 hIM
  have hc60 := zIM_c60 hIM
  have hs40 := zIM_s40 hIM
  refine lv_aload_n hx hb dL_law_1111 rfl (lv_at hl 1 rfl) ?_
  refine lv_aload_n hx hb dL_law_1112 rfl (lv_at hl 0 rfl) ?_
  refine lv_iload_n hx hb dL_law_1113 rfl (lv_at hl 3 rfl) ?_
  refine lv_iconst (v := 1) hx hb dL_law_1114 (by decide) ?_
  refine lv_iadd hx hb dL_law_1115 ?_
  refine lv_topi (fun y1 e2 => ?_)
  obtain rfl : y1 = nI (5 * j + 1) := e2.trans (nI_add (5 * j) 1)
  refine z_sld (5 * j + 1) hx hb hXs hbl hbA hS rfl (by omega) (by omega) dL_law_1116 ?_
  refine lv_aload_n hx hb dL_law_1117 rfl (lv_at hl 0 rfl) ?_
  refine lv_iload_n hx hb dL_law_1118 rfl (lv_at hl 3 rfl) ?_
  refine lv_iconst (v := 2) hx hb dL_law_1119 (by decide) ?_
  refine lv_iadd hx hb dL_law_1120 ?_
  refine lv_topi (fun y3 e4 => ?_)
  obtain rfl : y3 = nI (5 * j + 2) := e4.trans (nI_add (5 * j) 2)
  refine z_sld (5 * j + 2) hx hb hXs hbl hbA hS rfl (by omega) (by omega) dL_law_1121 ?_
  refine z_callVi2 (As := [.int (xs (5 * j + 1)), .int (xs (5 * j + 2))]) C hzx hS hA hl (k_X7_named l D cy fX o fa fi nu fm co en ke ev al ra kn vq ge ea ma m_u1 m_u2 m_u3 m_gv m_nl m_gu m_nn ga gr fg pt m_gk m_ln pp wg m_gw m_gh bf m_nf gf fq fk m_fz fc m_nc gc cn m_ge1 m_gn1 m_sq mb m_ks kk m_gx3 m_lk (xs (5 * j + 1)) (xs (5 * j + 2))  hIX) zyX7_named mML_124 hIX.1 zl7 rfl rfl (Nat.le_of_ble_eq_true rfl) ⟨Nat.le_of_ble_eq_true rfl, Nat.le_of_ble_eq_true rfl⟩ ⟨show 100 + 10 * j + 0 ≤ 600000 by omega, show 3000 + 60 * j + 0 ≤ 7302249 by omega⟩ dL_law_1122 (fun r5 f1 H locs hp hz1 hS hfr => ?_)
  clear hIX
  refine hp.elim fun v6 h90 => h90.elim fun v7 h91 => h91.elim fun v8 h92 => h92.elim fun v9 h93 => h93.elim fun v10 h94 => h94.elim fun v11 h95 => h95.elim fun v12 h96 => h96.elim fun v13 h97 => h97.elim fun v14 h98 => h98.elim fun v15 h99 => h99.elim fun v16 h910 => h910.elim fun v17 h911 => h911.elim fun v18 h912 => h912.elim fun v19 h913 => h913.elim fun v20 h914 => h914.elim fun v21 h915 => h915.elim fun v22 h916 => h916.elim fun v23 h917 => h917.elim fun v24 h918 => h918.elim fun v25 h919 => h919.elim fun v26 h920 => h920.elim fun v27 h921 => h921.elim fun v28 h922 => h922.elim fun v29 h923 => h923.elim fun v30 h924 => h924.elim fun v31 h925 => h925.elim fun v32 h926 => h926.elim fun v33 h927 => h927.elim fun v34 h928 => h928.elim fun v35 h929 => h929.elim fun v36 h930 => h930.elim fun v37 h931 => h931.elim fun v38 h932 => h932.elim fun v39 h933 => h933.elim fun v40 h934 => ?_
  clear hp h90 h91 h92 h93 h94 h95 h96 h97 h98 h99 h910 h911 h912 h913 h914 h915 h916 h917 h918 h919 h920 h921 h922 h923 h924 h925 h926 h927 h928 h929 h930 h931 h932 h933
  obtain ⟨e41, e42, e43, e44, e45, e46, e47, e48, e49, e50, e51, e52, e53, e54, e55, e56, e57, e58, e59, e60, e61, e62, e63, e64, e65, hIX⟩ := h934
  obtain ⟨hzm, hd⟩ := hfr fM hzm hd
  have hzx := hz1
  clear hz1 hfr
  obtain ⟨fX, hfx9⟩ : ∃ g : zM, g = f1 := ⟨_, rfl⟩
  rw [← hfx9] at hIX hd hzx
  clear hfx9
  refine lv_pop hx hb dL_law_1125 rfl ?_
  refine lv_aload_n hx hb dL_law_1126 rfl (lv_at hl 2 rfl) ?_
  refine lv_aload_n hx hb dL_law_1127 rfl (lv_at hl 0 rfl) ?_
  refine lv_iload_n hx hb dL_law_1128 rfl (lv_at hl 3 rfl) ?_
  refine lv_iconst (v := 1) hx hb dL_law_1129 (by decide) ?_
  refine lv_iadd hx hb dL_law_1130 ?_
  refine lv_topi (fun y66 e67 => ?_)
  obtain rfl : y66 = nI (5 * j + 1) := e67.trans (nI_add (5 * j) 1)
  refine z_sld (5 * j + 1) hx hb hXs hbl hbA hS rfl (by omega) (by omega) dL_law_1131 ?_
  refine lv_aload_n hx hb dL_law_1132 rfl (lv_at hl 0 rfl) ?_
  refine lv_iload_n hx hb dL_law_1133 rfl (lv_at hl 3 rfl) ?_
  refine lv_iconst (v := 2) hx hb dL_law_1134 (by decide) ?_
  refine lv_iadd hx hb dL_law_1135 ?_
  refine lv_topi (fun y68 e69 => ?_)
  obtain rfl : y68 = nI (5 * j + 2) := e69.trans (nI_add (5 * j) 2)
  refine z_sld (5 * j + 2) hx hb hXs hbl hbA hS rfl (by omega) (by omega) dL_law_1136 ?_
  refine z_callVi2 (As := [.int (xs (5 * j + 1)), .int (xs (5 * j + 2))]) C hzm hS hA hl (k_X8_named l D cy fM mo m_wev m_wnb m_wki m_wmy m_wce m_wiw m_wli m_wha m_wwt m_wfy m_wfk m_wem m_wna m_wpl m_whs m_wk1 m_wk2 m_wk3 m_u1 m_u2 m_u3 m_nl m_nn m_nf m_nc m_lk m_ks m_gv m_gu m_gk m_gm m_gc m_gw m_gl m_gh m_gt m_gy m_gq m_ge1 m_gn1 m_gp1 m_gs m_gx1 m_gx2 m_gx3 m_ln m_fz m_sq (xs (5 * j + 1)) (xs (5 * j + 2))  hIM) zyX8_named mML_127 hIM.1 zl8 rfl rfl (Nat.le_of_ble_eq_true rfl) ⟨Nat.le_of_ble_eq_true rfl, Nat.le_of_ble_eq_true rfl⟩ ⟨show 100 + 10 * j + 0 + 0 ≤ 600000 by omega, show 3000 + 60 * j + 0 + 0 ≤ 7302249 by omega⟩ dL_law_1137 (fun r70 f1 H locs hp hz1 hS hfr => ?_)
  clear hIM
  refine hp.elim fun w71 h90 => h90.elim fun w72 h91 => h91.elim fun w73 h92 => h92.elim fun w74 h93 => h93.elim fun w75 h94 => h94.elim fun w76 h95 => h95.elim fun w77 h96 => h96.elim fun w78 h97 => h97.elim fun w79 h98 => h98.elim fun w80 h99 => h99.elim fun w81 h910 => h910.elim fun w82 h911 => h911.elim fun w83 h912 => h912.elim fun w84 h913 => h913.elim fun w85 h914 => h914.elim fun w86 h915 => h915.elim fun w87 h916 => h916.elim fun w88 h917 => h917.elim fun w89 h918 => h918.elim fun w90 h919 => h919.elim fun w91 h920 => h920.elim fun w92 h921 => h921.elim fun w93 h922 => h922.elim fun w94 h923 => h923.elim fun w95 h924 => h924.elim fun w96 h925 => h925.elim fun w97 h926 => h926.elim fun w98 h927 => h927.elim fun w99 h928 => h928.elim fun w100 h929 => ?_
  clear hp h90 h91 h92 h93 h94 h95 h96 h97 h98 h99 h910 h911 h912 h913 h914 h915 h916 h917 h918 h919 h920 h921 h922 h923 h924 h925 h926 h927 h928
  obtain ⟨e101, e102, e103, e104, e105, e106, e107, e108, e109, e110, e111, e112, e113, e114, e115, e116, e117, e118, e119, e120, e121, e122, e123, e124, e125, e126, hIM⟩ := h929
  obtain ⟨hzx, hd⟩ := hfr fX hzx (z_dsym hd)
  replace hd := z_dsym hd
  have hzm := hz1
  clear hz1 hfr
  obtain ⟨fM, hfm9⟩ : ∃ g : zM, g = f1 := ⟨_, rfl⟩
  rw [← hfm9] at hIM hd hzm
  clear hfm9
  have hr9 := law_named hRE hc60 e65 e126
  subst hr9
  refine lv_pop hx hb dL_law_1140 rfl ?_
  refine lv_goto (tgt := 1358) hx hb dL_law_1141 (by decide) ?_
  refine W.widen (k := 100 + 10 * (j + 1)) (n := 3000 + 60 * (j + 1)) (show 100 + 10 * j + 0 + 0 ≤ 100 + 10 * (j + 1) by omega) (show 3000 + 60 * j + 0 + 0 ≤ 3000 + 60 * (j + 1) by omega) ?_
  have hPC9 : zPC v12 v18 v19 w84 := by rw [e47, e49, e50, e112]; exact hPC
  have hFF9 : zFF v24 v28 v29 w90 := by rw [e53, e54, e55, e115]; exact hFF
  have hRE9 : zRE v30 v33 v34 v35 v36 w93 := by rw [e56, e57, e58, e59, e60, e119]; exact hRE
  have hKR8 : zKR v37 v38 w95 w96 := by rw [e61, e62, e122, e123]; exact hKR
  exact fin _ _ _ (z_LI hIX hIM hzx hzm hd ⟨(e101.trans e41.symm), (e102.trans e42.symm), (e103.trans e43.symm), (e104.trans e44.symm), (e105.trans e45.symm), (e106.trans e46.symm), (e107.trans e47.symm), (e108.trans e48.symm), (e110.trans e51.symm), (e109.trans e49.symm), (e111.trans e52.symm), (e113.trans e53.symm), (e114.trans e54.symm), (e116.trans e56.symm), (e117.trans e57.symm), (e118.trans e58.symm), (e120.trans e59.symm), (e125.trans e64.symm), (e121.trans e61.symm), (e124.trans e63.symm), hPC9, hFF9, hRE9, hKR8⟩) hS (lv_sub hl [0, 1, 2, 3] rfl)
set_option maxHeartbeats 4000000 in
set_option maxRecDepth 100000 in
theorem law_case_26 {p : Program} {l : Launch} {e : Env} {s : State} {m : MethodId} {below : List Frame} {meth : Method} {c : Code} {D : va_G} {cy : Nat → ClassId} {b L : Nat} {xs : Nat → Int32} {o mo j : Nat} (C : zC D cy p s m #[Value.ref b] meth c RL cL_law 4) (hXs : va_X b L xs s s.heap) (hbl : b < s.heap.size) (hbA : ¬ zLA s b) (hL : L ≤ 2560) (hj : 5 * j + 5 ≤ L) (fin : ∀ (H : Heap) (locs : List Loc) (ls : Array Slot), zLI D cy s o mo H → va_S (zLA s) s.heap H locs → lv_has ls 4 [(0, .ref b), (1, .ref o), (2, .ref mo), (3, .int (nI (5 * j)))] → W p l e room_1 s m #[Value.ref b] below meth c H locs (100 + 10 * (j + 1)) (3000 + 60 * (j + 1)) (lw_Z below #[Value.ref b] s) (F0 m 1358 ls [])) {H : Heap} {locs : List Loc} {ls : Array Slot} (hLI : zLI D cy s o mo H) (hS : va_S (zLA s) s.heap H locs) (hl : lv_has ls 4 [(0, .ref b), (1, .ref o), (2, .ref mo), (3, .int (nI (5 * j)))]) : W p l e room_1 s m #[Value.ref b] below meth c H locs (100 + 10 * j) (3000 + 60 * j) (lw_Z below #[Value.ref b] s) (F0 m 1144 ls []) := by
  have hx := C.1
  have hb := C.2.1
  have hA : ∀ q, s.heap.size ≤ q → zLA s q := fun q h => h
  refine Exists.elim hLI fun fX h90 => h90.elim fun fM h91 => h91.elim fun fa h92 => h92.elim fun fi h93 => h93.elim fun nu h94 => h94.elim fun fm h95 => h95.elim fun co h96 => h96.elim fun en h97 => h97.elim fun ke h98 => h98.elim fun ev h99 => h99.elim fun al h910 => h910.elim fun ra h911 => h911.elim fun kn h912 => h912.elim fun vq h913 => h913.elim fun ge h914 => h914.elim fun ea h915 => h915.elim fun ma h916 => h916.elim fun u1 h917 => h917.elim fun u2 h918 => h918.elim fun u3 h919 => h919.elim fun gv h920 => h920.elim fun nl h921 => h921.elim fun gu h922 => h922.elim fun nn h923 => h923.elim fun ga h924 => h924.elim fun gr h925 => h925.elim fun fg h926 => h926.elim fun pt h927 => h927.elim fun kd h928 => h928.elim fun ln h929 => h929.elim fun pp h930 => h930.elim fun wg h931 => h931.elim fun wd h932 => h932.elim fun hs h933 => h933.elim fun bf h934 => h934.elim fun nf h935 => h935.elim fun gf h936 => h936.elim fun fq h937 => h937.elim fun fk h938 => h938.elim fun fz h939 => h939.elim fun fc h940 => h940.elim fun nc h941 => h941.elim fun gc h942 => h942.elim fun cn h943 => h943.elim fun ce h944 => h944.elim fun cm h945 => h945.elim fun sq h946 => h946.elim fun mb h947 => h947.elim fun ks h948 => h948.elim fun kk h949 => h949.elim fun kv h950 => h950.elim fun lk h951 => h951.elim fun m_wev h952 => h952.elim fun m_wnb h953 => h953.elim fun m_wki h954 => h954.elim fun m_wmy h955 => h955.elim fun m_wce h956 => h956.elim fun m_wiw h957 => h957.elim fun m_wli h958 => h958.elim fun m_wha h959 => h959.elim fun m_wwt h960 => h960.elim fun m_wfy h961 => h961.elim fun m_wfk h962 => h962.elim fun m_wem h963 => h963.elim fun m_wna h964 => h964.elim fun m_wpl h965 => h965.elim fun m_whs h966 => h966.elim fun m_wk1 h967 => h967.elim fun m_wk2 h968 => h968.elim fun m_wk3 h969 => h969.elim fun m_u1 h970 => h970.elim fun m_u2 h971 => h971.elim fun m_u3 h972 => h972.elim fun m_nl h973 => h973.elim fun m_nn h974 => h974.elim fun m_nf h975 => h975.elim fun m_nc h976 => h976.elim fun m_lk h977 => h977.elim fun m_ks h978 => h978.elim fun m_gv h979 => h979.elim fun m_gu h980 => h980.elim fun m_gk h981 => h981.elim fun m_gm h982 => h982.elim fun m_gc h983 => h983.elim fun m_gw h984 => h984.elim fun m_gl h985 => h985.elim fun m_gh h986 => h986.elim fun m_gt h987 => h987.elim fun m_gy h988 => h988.elim fun m_gq h989 => h989.elim fun m_ge1 h990 => h990.elim fun m_gn1 h991 => h991.elim fun m_gp1 h992 => h992.elim fun m_gs h993 => h993.elim fun m_gx1 h994 => h994.elim fun m_gx2 h995 => h995.elim fun m_gx3 h996 => h996.elim fun m_ln h997 => h997.elim fun m_fz h998 => h998.elim fun m_sq h999 => ?_
  clear hLI h90 h91 h92 h93 h94 h95 h96 h97 h98 h99 h910 h911 h912 h913 h914 h915 h916 h917 h918 h919 h920 h921 h922 h923 h924 h925 h926 h927 h928 h929 h930 h931 h932 h933 h934 h935 h936 h937 h938 h939 h940 h941 h942 h943 h944 h945 h946 h947 h948 h949 h950 h951 h952 h953 h954 h955 h956 h957 h958 h959 h960 h961 h962 h963 h964 h965 h966 h967 h968 h969 h970 h971 h972 h973 h974 h975 h976 h977 h978 h979 h980 h981 h982 h983 h984 h985 h986 h987 h988 h989 h990 h991 h992 h993 h994 h995 h996 h997 h998
  obtain ⟨hIX, hIM, hzx, hzm, hd, rfl, rfl, rfl, rfl, rfl, rfl, rfl, rfl, rfl, rfl, rfl, rfl, rfl, rfl, rfl, rfl, rfl, rfl, rfl, rfl, hPC, hFF, hRE, hKR⟩ := h999
  have hl15 := zIM_ln hIM
  have hfz4 := zIM_fz hIM
  have hn60 := zIM_n60 hIM
  have hf60 := zIM_f60 hIM
  have hc60 := zIM_c60 hIM
  have hs40 := zIM_s40 hIM
  refine lv_aload_n hx hb dL_law_1144 rfl (lv_at hl 1 rfl) ?_
  refine lv_aload_n hx hb dL_law_1145 rfl (lv_at hl 0 rfl) ?_
  refine lv_iload_n hx hb dL_law_1146 rfl (lv_at hl 3 rfl) ?_
  refine lv_iconst (v := 1) hx hb dL_law_1147 (by decide) ?_
  refine lv_iadd hx hb dL_law_1148 ?_
  refine lv_topi (fun y1 e2 => ?_)
  obtain rfl : y1 = nI (5 * j + 1) := e2.trans (nI_add (5 * j) 1)
  refine z_sld (5 * j + 1) hx hb hXs hbl hbA hS rfl (by omega) (by omega) dL_law_1149 ?_
  refine z_callVi2 (As := [.int (xs (5 * j + 1))]) C hzx hS hA hl (k_X7_drop l D cy fX o fa fi nu fm co en ke ev al ra kn vq ge ea ma m_u1 m_u2 m_u3 m_gv m_nl m_gu m_nn ga gr fg pt m_gk m_ln pp wg m_gw m_gh bf m_nf gf fq fk m_fz fc m_nc gc cn m_ge1 m_gn1 m_sq mb m_ks kk m_gx3 m_lk (xs (5 * j + 1))  hIX) zyX7_drop mML_128 hIX.1 zl7 rfl rfl (Nat.le_of_ble_eq_true rfl) ⟨Nat.le_of_ble_eq_true rfl, Nat.le_of_ble_eq_true rfl⟩ ⟨show 100 + 10 * j + 0 ≤ 600000 by omega, show 3000 + 60 * j + 0 ≤ 7302249 by omega⟩ dL_law_1150 (fun r3 f1 H locs hp hz1 hS hfr => ?_)
  clear hIX
  refine hp.elim fun v4 h90 => h90.elim fun v5 h91 => h91.elim fun v6 h92 => h92.elim fun v7 h93 => h93.elim fun v8 h94 => h94.elim fun v9 h95 => h95.elim fun v10 h96 => h96.elim fun v11 h97 => h97.elim fun v12 h98 => h98.elim fun v13 h99 => h99.elim fun v14 h910 => h910.elim fun v15 h911 => h911.elim fun v16 h912 => h912.elim fun v17 h913 => h913.elim fun v18 h914 => h914.elim fun v19 h915 => h915.elim fun v20 h916 => h916.elim fun v21 h917 => h917.elim fun v22 h918 => h918.elim fun v23 h919 => h919.elim fun v24 h920 => h920.elim fun v25 h921 => h921.elim fun v26 h922 => h922.elim fun v27 h923 => h923.elim fun v28 h924 => h924.elim fun v29 h925 => h925.elim fun v30 h926 => h926.elim fun v31 h927 => h927.elim fun v32 h928 => h928.elim fun v33 h929 => h929.elim fun v34 h930 => h930.elim fun v35 h931 => h931.elim fun v36 h932 => h932.elim fun v37 h933 => h933.elim fun v38 h934 => ?_
  clear hp h90 h91 h92 h93 h94 h95 h96 h97 h98 h99 h910 h911 h912 h913 h914 h915 h916 h917 h918 h919 h920 h921 h922 h923 h924 h925 h926 h927 h928 h929 h930 h931 h932 h933
  obtain ⟨e39, e40, e41, e42, e43, e44, e45, e46, e47, e48, e49, e50, e51, e52, e53, e54, e55, e56, e57, e58, e59, e60, e61, hIX⟩ := h934
  obtain ⟨hzm, hd⟩ := hfr fM hzm hd
  have hzx := hz1
  clear hz1 hfr
  obtain ⟨fX, hfx9⟩ : ∃ g : zM, g = f1 := ⟨_, rfl⟩
  rw [← hfx9] at hIX hd hzx
  clear hfx9
  refine lv_pop hx hb dL_law_1153 rfl ?_
  refine lv_aload_n hx hb dL_law_1154 rfl (lv_at hl 2 rfl) ?_
  refine lv_aload_n hx hb dL_law_1155 rfl (lv_at hl 0 rfl) ?_
  refine lv_iload_n hx hb dL_law_1156 rfl (lv_at hl 3 rfl) ?_
  refine lv_iconst (v := 1) hx hb dL_law_1157 (by decide) ?_
  refine lv_iadd hx hb dL_law_1158 ?_
  refine lv_topi (fun y62 e63 => ?_)
  obtain rfl : y62 = nI (5 * j + 1) := e63.trans (nI_add (5 * j) 1)
  refine z_sld (5 * j + 1) hx hb hXs hbl hbA hS rfl (by omega) (by omega) dL_law_1159 ?_
  refine z_callVi2 (As := [.int (xs (5 * j + 1))]) C hzm hS hA hl (k_X8_drop l D cy fM mo m_wev m_wnb m_wki m_wmy m_wce m_wiw m_wli m_wha m_wwt m_wfy m_wfk m_wem m_wna m_wpl m_whs m_wk1 m_wk2 m_wk3 m_u1 m_u2 m_u3 m_nl m_nn m_nf m_nc m_lk m_ks m_gv m_gu m_gk m_gm m_gc m_gw m_gl m_gh m_gt m_gy m_gq m_ge1 m_gn1 m_gp1 m_gs m_gx1 m_gx2 m_gx3 m_ln m_fz m_sq (xs (5 * j + 1))  hIM) zyX8_drop mML_131 hIM.1 zl8 rfl rfl (Nat.le_of_ble_eq_true rfl) ⟨Nat.le_of_ble_eq_true rfl, Nat.le_of_ble_eq_true rfl⟩ ⟨show 100 + 10 * j + 0 + 0 ≤ 600000 by omega, show 3000 + 60 * j + 0 + 0 ≤ 7302249 by omega⟩ dL_law_1160 (fun r64 f1 H locs hp hz1 hS hfr => ?_)
  clear hIM
  refine hp.elim fun w65 h90 => h90.elim fun w66 h91 => h91.elim fun w67 h92 => h92.elim fun w68 h93 => h93.elim fun w69 h94 => h94.elim fun w70 h95 => h95.elim fun w71 h96 => h96.elim fun w72 h97 => h97.elim fun w73 h98 => h98.elim fun w74 h99 => h99.elim fun w75 h910 => h910.elim fun w76 h911 => h911.elim fun w77 h912 => h912.elim fun w78 h913 => h913.elim fun w79 h914 => h914.elim fun w80 h915 => h915.elim fun w81 h916 => h916.elim fun w82 h917 => h917.elim fun w83 h918 => h918.elim fun w84 h919 => h919.elim fun w85 h920 => h920.elim fun w86 h921 => h921.elim fun w87 h922 => h922.elim fun w88 h923 => h923.elim fun w89 h924 => h924.elim fun w90 h925 => h925.elim fun w91 h926 => h926.elim fun w92 h927 => h927.elim fun w93 h928 => h928.elim fun w94 h929 => ?_
  clear hp h90 h91 h92 h93 h94 h95 h96 h97 h98 h99 h910 h911 h912 h913 h914 h915 h916 h917 h918 h919 h920 h921 h922 h923 h924 h925 h926 h927 h928
  obtain ⟨e95, e96, e97, e98, e99, e100, e101, e102, e103, e104, e105, e106, e107, e108, e109, e110, e111, e112, e113, e114, e115, e116, e117, e118, hIM⟩ := h929
  obtain ⟨hzx, hd⟩ := hfr fX hzx (z_dsym hd)
  replace hd := z_dsym hd
  have hzm := hz1
  clear hz1 hfr
  obtain ⟨fM, hfm9⟩ : ∃ g : zM, g = f1 := ⟨_, rfl⟩
  rw [← hfm9] at hIM hd hzm
  clear hfm9
  obtain ⟨hr9, hsq9, hRE8⟩ := law_drop hRE hc60 e61 e118
  subst hr9
  refine lv_pop hx hb dL_law_1163 rfl ?_
  refine lv_goto (tgt := 1358) hx hb dL_law_1164 (by decide) ?_
  refine W.widen (k := 100 + 10 * (j + 1)) (n := 3000 + 60 * (j + 1)) (show 100 + 10 * j + 0 + 0 ≤ 100 + 10 * (j + 1) by omega) (show 3000 + 60 * j + 0 + 0 ≤ 3000 + 60 * (j + 1) by omega) ?_
  have hPC9 : zPC v10 v16 v17 w78 := by rw [e45, e47, e48, e106]; exact hPC
  have hFF9 : zFF v22 v26 v27 w84 := by rw [e51, e52, e53, e109]; exact hFF
  have hRE9 : zRE v28 v31 v32 v33 v34 w87 := by rw [e54, e55, e56]; exact hRE8
  have hKR8 : zKR v35 v36 w89 w90 := by rw [e57, e58, e114, e115]; exact hKR
  exact fin _ _ _ (z_LI hIX hIM hzx hzm hd ⟨(e95.trans e39.symm), (e96.trans e40.symm), (e97.trans e41.symm), (e98.trans e42.symm), (e99.trans e43.symm), (e100.trans e44.symm), (e101.trans e45.symm), (e102.trans e46.symm), (e104.trans e49.symm), (e103.trans e47.symm), (e105.trans e50.symm), (e107.trans e51.symm), (e108.trans e52.symm), (e110.trans e54.symm), (e111.trans e55.symm), (e112.trans e56.symm), hsq9, (e117.trans e60.symm), (e113.trans e57.symm), (e116.trans e59.symm), hPC9, hFF9, hRE9, hKR8⟩) hS (lv_sub hl [0, 1, 2, 3] rfl)
set_option maxHeartbeats 4000000 in
set_option maxRecDepth 100000 in
theorem law_case_27 {p : Program} {l : Launch} {e : Env} {s : State} {m : MethodId} {below : List Frame} {meth : Method} {c : Code} {D : va_G} {cy : Nat → ClassId} {b L : Nat} {xs : Nat → Int32} {o mo j : Nat} (C : zC D cy p s m #[Value.ref b] meth c RL cL_law 4) (hXs : va_X b L xs s s.heap) (hbl : b < s.heap.size) (hbA : ¬ zLA s b) (hL : L ≤ 2560) (hj : 5 * j + 5 ≤ L) (fin : ∀ (H : Heap) (locs : List Loc) (ls : Array Slot), zLI D cy s o mo H → va_S (zLA s) s.heap H locs → lv_has ls 4 [(0, .ref b), (1, .ref o), (2, .ref mo), (3, .int (nI (5 * j)))] → W p l e room_1 s m #[Value.ref b] below meth c H locs (100 + 10 * (j + 1)) (3000 + 60 * (j + 1)) (lw_Z below #[Value.ref b] s) (F0 m 1358 ls [])) {H : Heap} {locs : List Loc} {ls : Array Slot} (hLI : zLI D cy s o mo H) (hS : va_S (zLA s) s.heap H locs) (hl : lv_has ls 4 [(0, .ref b), (1, .ref o), (2, .ref mo), (3, .int (nI (5 * j)))]) : W p l e room_1 s m #[Value.ref b] below meth c H locs (100 + 10 * j) (3000 + 60 * j) (lw_Z below #[Value.ref b] s) (F0 m 1167 ls []) := by
  have hx := C.1
  have hb := C.2.1
  have hA : ∀ q, s.heap.size ≤ q → zLA s q := fun q h => h
  refine Exists.elim hLI fun fX h90 => h90.elim fun fM h91 => h91.elim fun fa h92 => h92.elim fun fi h93 => h93.elim fun nu h94 => h94.elim fun fm h95 => h95.elim fun co h96 => h96.elim fun en h97 => h97.elim fun ke h98 => h98.elim fun ev h99 => h99.elim fun al h910 => h910.elim fun ra h911 => h911.elim fun kn h912 => h912.elim fun vq h913 => h913.elim fun ge h914 => h914.elim fun ea h915 => h915.elim fun ma h916 => h916.elim fun u1 h917 => h917.elim fun u2 h918 => h918.elim fun u3 h919 => h919.elim fun gv h920 => h920.elim fun nl h921 => h921.elim fun gu h922 => h922.elim fun nn h923 => h923.elim fun ga h924 => h924.elim fun gr h925 => h925.elim fun fg h926 => h926.elim fun pt h927 => h927.elim fun kd h928 => h928.elim fun ln h929 => h929.elim fun pp h930 => h930.elim fun wg h931 => h931.elim fun wd h932 => h932.elim fun hs h933 => h933.elim fun bf h934 => h934.elim fun nf h935 => h935.elim fun gf h936 => h936.elim fun fq h937 => h937.elim fun fk h938 => h938.elim fun fz h939 => h939.elim fun fc h940 => h940.elim fun nc h941 => h941.elim fun gc h942 => h942.elim fun cn h943 => h943.elim fun ce h944 => h944.elim fun cm h945 => h945.elim fun sq h946 => h946.elim fun mb h947 => h947.elim fun ks h948 => h948.elim fun kk h949 => h949.elim fun kv h950 => h950.elim fun lk h951 => h951.elim fun m_wev h952 => h952.elim fun m_wnb h953 => h953.elim fun m_wki h954 => h954.elim fun m_wmy h955 => h955.elim fun m_wce h956 => h956.elim fun m_wiw h957 => h957.elim fun m_wli h958 => h958.elim fun m_wha h959 => h959.elim fun m_wwt h960 => h960.elim fun m_wfy h961 => h961.elim fun m_wfk h962 => h962.elim fun m_wem h963 => h963.elim fun m_wna h964 => h964.elim fun m_wpl h965 => h965.elim fun m_whs h966 => h966.elim fun m_wk1 h967 => h967.elim fun m_wk2 h968 => h968.elim fun m_wk3 h969 => h969.elim fun m_u1 h970 => h970.elim fun m_u2 h971 => h971.elim fun m_u3 h972 => h972.elim fun m_nl h973 => h973.elim fun m_nn h974 => h974.elim fun m_nf h975 => h975.elim fun m_nc h976 => h976.elim fun m_lk h977 => h977.elim fun m_ks h978 => h978.elim fun m_gv h979 => h979.elim fun m_gu h980 => h980.elim fun m_gk h981 => h981.elim fun m_gm h982 => h982.elim fun m_gc h983 => h983.elim fun m_gw h984 => h984.elim fun m_gl h985 => h985.elim fun m_gh h986 => h986.elim fun m_gt h987 => h987.elim fun m_gy h988 => h988.elim fun m_gq h989 => h989.elim fun m_ge1 h990 => h990.elim fun m_gn1 h991 => h991.elim fun m_gp1 h992 => h992.elim fun m_gs h993 => h993.elim fun m_gx1 h994 => h994.elim fun m_gx2 h995 => h995.elim fun m_gx3 h996 => h996.elim fun m_ln h997 => h997.elim fun m_fz h998 => h998.elim fun m_sq h999 => ?_
  clear hLI h90 h91 h92 h93 h94 h95 h96 h97 h98 h99 h910 h911 h912 h913 h914 h915 h916 h917 h918 h919 h920 h921 h922 h923 h924 h925 h926 h927 h928 h929 h930 h931 h932 h933 h934 h935 h936 h937 h938 h939 h940 h941 h942 h943 h944 h945 h946 h947 h948 h949 h950 h951 h952 h953 h954 h955 h956 h957 h958 h959 h960 h961 h962 h963 h964 h965 h966 h967 h968 h969 h970 h971 h972 h973 h974 h975 h976 h977 h978 h979 h980 h981 h982 h983 h984 h985 h986 h987 h988 h989 h990 h991 h992 h993 h994 h995 h996 h997 h998
  obtain ⟨hIX, hIM, hzx, hzm, hd, rfl, rfl, rfl, rfl, rfl, rfl, rfl, rfl, rfl, rfl, rfl, rfl, rfl, rfl, rfl, rfl, rfl, rfl, rfl, rfl, hPC, hFF, hRE, hKR⟩ := h999
  have hl15 := zIM_ln hIM
  have hfz4 := zIM_fz hIM
  have hn60 := zIM_n60 hIM
  have hf60 := zIM_f60 hIM
  have hc60 := zIM_c60 hIM
  have hs40 := zIM_s40 hIM
  refine lv_aload_n hx hb dL_law_1167 rfl (lv_at hl 1 rfl) ?_
  refine lv_aload_n hx hb dL_law_1168 rfl (lv_at hl 0 rfl) ?_
  refine lv_iload_n hx hb dL_law_1169 rfl (lv_at hl 3 rfl) ?_
  refine lv_iconst (v := 1) hx hb dL_law_1170 (by decide) ?_
  refine lv_iadd hx hb dL_law_1171 ?_
  refine lv_topi (fun y1 e2 => ?_)
  obtain rfl : y1 = nI (5 * j + 1) := e2.trans (nI_add (5 * j) 1)
  refine z_sld (5 * j + 1) hx hb hXs hbl hbA hS rfl (by omega) (by omega) dL_law_1172 ?_
  refine z_callVi2 (As := [.int (xs (5 * j + 1))]) C hzx hS hA hl (k_X7_reorder l D cy fX o fa fi nu fm co en ke ev al ra kn vq ge ea ma m_u1 m_u2 m_u3 m_gv m_nl m_gu m_nn ga gr fg pt m_gk m_ln pp wg m_gw m_gh bf m_nf gf fq fk m_fz fc m_nc gc cn m_ge1 m_gn1 m_sq mb m_ks kk m_gx3 m_lk (xs (5 * j + 1))  hIX) zyX7_reorder mML_132 hIX.1 zl7 rfl rfl (Nat.le_of_ble_eq_true rfl) ⟨Nat.le_of_ble_eq_true rfl, Nat.le_of_ble_eq_true rfl⟩ ⟨show 100 + 10 * j + 0 ≤ 600000 by omega, show 3000 + 60 * j + 0 ≤ 7302249 by omega⟩ dL_law_1173 (fun r3 f1 H locs hp hz1 hS hfr => ?_)
  clear hIX
  refine hp.elim fun v4 h90 => h90.elim fun v5 h91 => h91.elim fun v6 h92 => h92.elim fun v7 h93 => h93.elim fun v8 h94 => h94.elim fun v9 h95 => h95.elim fun v10 h96 => h96.elim fun v11 h97 => h97.elim fun v12 h98 => h98.elim fun v13 h99 => h99.elim fun v14 h910 => h910.elim fun v15 h911 => h911.elim fun v16 h912 => h912.elim fun v17 h913 => h913.elim fun v18 h914 => h914.elim fun v19 h915 => h915.elim fun v20 h916 => h916.elim fun v21 h917 => h917.elim fun v22 h918 => h918.elim fun v23 h919 => h919.elim fun v24 h920 => h920.elim fun v25 h921 => h921.elim fun v26 h922 => h922.elim fun v27 h923 => h923.elim fun v28 h924 => h924.elim fun v29 h925 => h925.elim fun v30 h926 => h926.elim fun v31 h927 => h927.elim fun v32 h928 => h928.elim fun v33 h929 => h929.elim fun v34 h930 => h930.elim fun v35 h931 => h931.elim fun v36 h932 => h932.elim fun v37 h933 => h933.elim fun v38 h934 => ?_
  clear hp h90 h91 h92 h93 h94 h95 h96 h97 h98 h99 h910 h911 h912 h913 h914 h915 h916 h917 h918 h919 h920 h921 h922 h923 h924 h925 h926 h927 h928 h929 h930 h931 h932 h933
  obtain ⟨e39, e40, e41, e42, e43, e44, e45, e46, e47, e48, e49, e50, e51, e52, e53, e54, e55, e56, e57, e58, e59, e60, e61, hIX⟩ := h934
  obtain ⟨hzm, hd⟩ := hfr fM hzm hd
  have hzx := hz1
  clear hz1 hfr
  obtain ⟨fX, hfx9⟩ : ∃ g : zM, g = f1 := ⟨_, rfl⟩
  rw [← hfx9] at hIX hd hzx
  clear hfx9
  refine lv_aload_n hx hb dL_law_1176 rfl (lv_at hl 2 rfl) ?_
  refine lv_aload_n hx hb dL_law_1177 rfl (lv_at hl 0 rfl) ?_
  refine lv_iload_n hx hb dL_law_1178 rfl (lv_at hl 3 rfl) ?_
  refine lv_iconst (v := 1) hx hb dL_law_1179 (by decide) ?_
  refine lv_iadd hx hb dL_law_1180 ?_
  refine lv_topi (fun y62 e63 => ?_)
  obtain rfl : y62 = nI (5 * j + 1) := e63.trans (nI_add (5 * j) 1)
  refine z_sld (5 * j + 1) hx hb hXs hbl hbA hS rfl (by omega) (by omega) dL_law_1181 ?_
  refine z_callVi2 (As := [.int (xs (5 * j + 1))]) C hzm hS hA hl (k_X8_reorder l D cy fM mo m_wev m_wnb m_wki m_wmy m_wce m_wiw m_wli m_wha m_wwt m_wfy m_wfk m_wem m_wna m_wpl m_whs m_wk1 m_wk2 m_wk3 m_u1 m_u2 m_u3 m_nl m_nn m_nf m_nc m_lk m_ks m_gv m_gu m_gk m_gm m_gc m_gw m_gl m_gh m_gt m_gy m_gq m_ge1 m_gn1 m_gp1 m_gs m_gx1 m_gx2 m_gx3 m_ln m_fz m_sq (xs (5 * j + 1))  hIM) zyX8_reorder mML_135 hIM.1 zl8 rfl rfl (Nat.le_of_ble_eq_true rfl) ⟨Nat.le_of_ble_eq_true rfl, Nat.le_of_ble_eq_true rfl⟩ ⟨show 100 + 10 * j + 0 + 0 ≤ 600000 by omega, show 3000 + 60 * j + 0 + 0 ≤ 7302249 by omega⟩ dL_law_1182 (fun r64 f1 H locs hp hz1 hS hfr => ?_)
  clear hIM
  refine hp.elim fun w65 h90 => h90.elim fun w66 h91 => h91.elim fun w67 h92 => h92.elim fun w68 h93 => h93.elim fun w69 h94 => h94.elim fun w70 h95 => h95.elim fun w71 h96 => h96.elim fun w72 h97 => h97.elim fun w73 h98 => h98.elim fun w74 h99 => h99.elim fun w75 h910 => h910.elim fun w76 h911 => h911.elim fun w77 h912 => h912.elim fun w78 h913 => h913.elim fun w79 h914 => h914.elim fun w80 h915 => h915.elim fun w81 h916 => h916.elim fun w82 h917 => h917.elim fun w83 h918 => h918.elim fun w84 h919 => h919.elim fun w85 h920 => h920.elim fun w86 h921 => h921.elim fun w87 h922 => h922.elim fun w88 h923 => h923.elim fun w89 h924 => h924.elim fun w90 h925 => h925.elim fun w91 h926 => h926.elim fun w92 h927 => h927.elim fun w93 h928 => h928.elim fun w94 h929 => ?_
  clear hp h90 h91 h92 h93 h94 h95 h96 h97 h98 h99 h910 h911 h912 h913 h914 h915 h916 h917 h918 h919 h920 h921 h922 h923 h924 h925 h926 h927 h928
  obtain ⟨e95, e96, e97, e98, e99, e100, e101, e102, e103, e104, e105, e106, e107, e108, e109, e110, e111, e112, e113, e114, e115, e116, e117, e118, hIM⟩ := h929
  obtain ⟨hzx, hd⟩ := hfr fX hzx (z_dsym hd)
  replace hd := z_dsym hd
  have hzm := hz1
  clear hz1 hfr
  obtain ⟨fM, hfm9⟩ : ∃ g : zM, g = f1 := ⟨_, rfl⟩
  rw [← hfm9] at hIM hd hzm
  clear hfm9
  obtain ⟨hr9, hlk9, hRE8⟩ := law_reorder hRE hc60 e61 e118
  subst hr9
  refine lv_icmp_eq (tgt := 1358) hx hb dL_law_1185 (by decide) (fun _ => ?_) (fun c119 => absurd rfl c119)
  refine W.widen (k := 100 + 10 * (j + 1)) (n := 3000 + 60 * (j + 1)) (show 100 + 10 * j + 0 + 0 ≤ 100 + 10 * (j + 1) by omega) (show 3000 + 60 * j + 0 + 0 ≤ 3000 + 60 * (j + 1) by omega) ?_
  have hPC9 : zPC v10 v16 v17 w78 := by rw [e45, e47, e48, e106]; exact hPC
  have hFF9 : zFF v22 v26 v27 w84 := by rw [e51, e52, e53, e109]; exact hFF
  have hRE9 : zRE v28 v31 v32 v33 v34 w87 := by rw [e54, e55, e56, e57]; exact hRE8
  have hKR8 : zKR v35 v36 w89 w90 := by rw [e58, e59, e115, e116]; exact hKR
  exact fin _ _ _ (z_LI hIX hIM hzx hzm hd ⟨(e95.trans e39.symm), (e96.trans e40.symm), (e97.trans e41.symm), (e98.trans e42.symm), (e99.trans e43.symm), (e100.trans e44.symm), (e101.trans e45.symm), (e102.trans e46.symm), (e104.trans e49.symm), (e103.trans e47.symm), (e105.trans e50.symm), (e107.trans e51.symm), (e108.trans e52.symm), (e110.trans e54.symm), (e111.trans e55.symm), (e112.trans e56.symm), (e113.trans e57.symm), hlk9, (e114.trans e58.symm), (e117.trans e60.symm), hPC9, hFF9, hRE9, hKR8⟩) hS (lv_sub hl [0, 1, 2, 3] rfl)
set_option maxHeartbeats 4000000 in
set_option maxRecDepth 100000 in
theorem law_case_28 {p : Program} {l : Launch} {e : Env} {s : State} {m : MethodId} {below : List Frame} {meth : Method} {c : Code} {D : va_G} {cy : Nat → ClassId} {b L : Nat} {xs : Nat → Int32} {o mo j : Nat} (C : zC D cy p s m #[Value.ref b] meth c RL cL_law 4) (hXs : va_X b L xs s s.heap) (hbl : b < s.heap.size) (hbA : ¬ zLA s b) (hL : L ≤ 2560) (hj : 5 * j + 5 ≤ L) (fin : ∀ (H : Heap) (locs : List Loc) (ls : Array Slot), zLI D cy s o mo H → va_S (zLA s) s.heap H locs → lv_has ls 4 [(0, .ref b), (1, .ref o), (2, .ref mo), (3, .int (nI (5 * j)))] → W p l e room_1 s m #[Value.ref b] below meth c H locs (100 + 10 * (j + 1)) (3000 + 60 * (j + 1)) (lw_Z below #[Value.ref b] s) (F0 m 1358 ls [])) {H : Heap} {locs : List Loc} {ls : Array Slot} (hLI : zLI D cy s o mo H) (hS : va_S (zLA s) s.heap H locs) (hl : lv_has ls 4 [(0, .ref b), (1, .ref o), (2, .ref mo), (3, .int (nI (5 * j)))]) : W p l e room_1 s m #[Value.ref b] below meth c H locs (100 + 10 * j) (3000 + 60 * j) (lw_Z below #[Value.ref b] s) (F0 m 1190 ls []) := by
  have hx := C.1
  have hb := C.2.1
  have hA : ∀ q, s.heap.size ≤ q → zLA s q := fun q h => h
  refine Exists.elim hLI fun fX h90 => h90.elim fun fM h91 => h91.elim fun fa h92 => h92.elim fun fi h93 => h93.elim fun nu h94 => h94.elim fun fm h95 => h95.elim fun co h96 => h96.elim fun en h97 => h97.elim fun ke h98 => h98.elim fun ev h99 => h99.elim fun al h910 => h910.elim fun ra h911 => h911.elim fun kn h912 => h912.elim fun vq h913 => h913.elim fun ge h914 => h914.elim fun ea h915 => h915.elim fun ma h916 => h916.elim fun u1 h917 => h917.elim fun u2 h918 => h918.elim fun u3 h919 => h919.elim fun gv h920 => h920.elim fun nl h921 => h921.elim fun gu h922 => h922.elim fun nn h923 => h923.elim fun ga h924 => h924.elim fun gr h925 => h925.elim fun fg h926 => h926.elim fun pt h927 => h927.elim fun kd h928 => h928.elim fun ln h929 => h929.elim fun pp h930 => h930.elim fun wg h931 => h931.elim fun wd h932 => h932.elim fun hs h933 => h933.elim fun bf h934 => h934.elim fun nf h935 => h935.elim fun gf h936 => h936.elim fun fq h937 => h937.elim fun fk h938 => h938.elim fun fz h939 => h939.elim fun fc h940 => h940.elim fun nc h941 => h941.elim fun gc h942 => h942.elim fun cn h943 => h943.elim fun ce h944 => h944.elim fun cm h945 => h945.elim fun sq h946 => h946.elim fun mb h947 => h947.elim fun ks h948 => h948.elim fun kk h949 => h949.elim fun kv h950 => h950.elim fun lk h951 => h951.elim fun m_wev h952 => h952.elim fun m_wnb h953 => h953.elim fun m_wki h954 => h954.elim fun m_wmy h955 => h955.elim fun m_wce h956 => h956.elim fun m_wiw h957 => h957.elim fun m_wli h958 => h958.elim fun m_wha h959 => h959.elim fun m_wwt h960 => h960.elim fun m_wfy h961 => h961.elim fun m_wfk h962 => h962.elim fun m_wem h963 => h963.elim fun m_wna h964 => h964.elim fun m_wpl h965 => h965.elim fun m_whs h966 => h966.elim fun m_wk1 h967 => h967.elim fun m_wk2 h968 => h968.elim fun m_wk3 h969 => h969.elim fun m_u1 h970 => h970.elim fun m_u2 h971 => h971.elim fun m_u3 h972 => h972.elim fun m_nl h973 => h973.elim fun m_nn h974 => h974.elim fun m_nf h975 => h975.elim fun m_nc h976 => h976.elim fun m_lk h977 => h977.elim fun m_ks h978 => h978.elim fun m_gv h979 => h979.elim fun m_gu h980 => h980.elim fun m_gk h981 => h981.elim fun m_gm h982 => h982.elim fun m_gc h983 => h983.elim fun m_gw h984 => h984.elim fun m_gl h985 => h985.elim fun m_gh h986 => h986.elim fun m_gt h987 => h987.elim fun m_gy h988 => h988.elim fun m_gq h989 => h989.elim fun m_ge1 h990 => h990.elim fun m_gn1 h991 => h991.elim fun m_gp1 h992 => h992.elim fun m_gs h993 => h993.elim fun m_gx1 h994 => h994.elim fun m_gx2 h995 => h995.elim fun m_gx3 h996 => h996.elim fun m_ln h997 => h997.elim fun m_fz h998 => h998.elim fun m_sq h999 => ?_
  clear hLI h90 h91 h92 h93 h94 h95 h96 h97 h98 h99 h910 h911 h912 h913 h914 h915 h916 h917 h918 h919 h920 h921 h922 h923 h924 h925 h926 h927 h928 h929 h930 h931 h932 h933 h934 h935 h936 h937 h938 h939 h940 h941 h942 h943 h944 h945 h946 h947 h948 h949 h950 h951 h952 h953 h954 h955 h956 h957 h958 h959 h960 h961 h962 h963 h964 h965 h966 h967 h968 h969 h970 h971 h972 h973 h974 h975 h976 h977 h978 h979 h980 h981 h982 h983 h984 h985 h986 h987 h988 h989 h990 h991 h992 h993 h994 h995 h996 h997 h998
  obtain ⟨hIX, hIM, hzx, hzm, hd, rfl, rfl, rfl, rfl, rfl, rfl, rfl, rfl, rfl, rfl, rfl, rfl, rfl, rfl, rfl, rfl, rfl, rfl, rfl, rfl, hPC, hFF, hRE, hKR⟩ := h999
  have hl15 := zIM_ln hIM
  have hfz4 := zIM_fz hIM
  have hn60 := zIM_n60 hIM
  have hf60 := zIM_f60 hIM
  have hc60 := zIM_c60 hIM
  have hs40 := zIM_s40 hIM
  refine lv_aload_n hx hb dL_law_1190 rfl (lv_at hl 1 rfl) ?_
  refine lv_aload_n hx hb dL_law_1191 rfl (lv_at hl 0 rfl) ?_
  refine lv_iload_n hx hb dL_law_1192 rfl (lv_at hl 3 rfl) ?_
  refine lv_iconst (v := 1) hx hb dL_law_1193 (by decide) ?_
  refine lv_iadd hx hb dL_law_1194 ?_
  refine lv_topi (fun y1 e2 => ?_)
  obtain rfl : y1 = nI (5 * j + 1) := e2.trans (nI_add (5 * j) 1)
  refine z_sld (5 * j + 1) hx hb hXs hbl hbA hS rfl (by omega) (by omega) dL_law_1195 ?_
  refine z_callVi2 (As := [.int (xs (5 * j + 1))]) C hzx hS hA hl (k_X7_seed l D cy fX o fa fi nu fm co en ke ev al ra kn vq ge ea ma m_u1 m_u2 m_u3 m_gv m_nl m_gu m_nn ga gr fg pt m_gk m_ln pp wg m_gw m_gh bf m_nf gf fq fk m_fz fc m_nc gc cn m_ge1 m_gn1 m_sq mb m_ks kk m_gx3 m_lk (xs (5 * j + 1))  hIX) zyX7_seed mML_136 hIX.1 zl7 rfl rfl (Nat.le_of_ble_eq_true rfl) ⟨Nat.le_of_ble_eq_true rfl, Nat.le_of_ble_eq_true rfl⟩ ⟨show 100 + 10 * j + 0 ≤ 600000 by omega, show 3000 + 60 * j + 0 ≤ 7302249 by omega⟩ dL_law_1196 (fun r f1 H locs hp hz1 hS hfr => ?_)
  clear hIX
  refine hp.elim fun v3 h90 => h90.elim fun v4 h91 => h91.elim fun v5 h92 => h92.elim fun v6 h93 => h93.elim fun v7 h94 => h94.elim fun v8 h95 => h95.elim fun v9 h96 => h96.elim fun v10 h97 => h97.elim fun v11 h98 => h98.elim fun v12 h99 => h99.elim fun v13 h910 => h910.elim fun v14 h911 => h911.elim fun v15 h912 => h912.elim fun v16 h913 => h913.elim fun v17 h914 => h914.elim fun v18 h915 => h915.elim fun v19 h916 => h916.elim fun v20 h917 => h917.elim fun v21 h918 => h918.elim fun v22 h919 => h919.elim fun v23 h920 => h920.elim fun v24 h921 => h921.elim fun v25 h922 => h922.elim fun v26 h923 => h923.elim fun v27 h924 => h924.elim fun v28 h925 => h925.elim fun v29 h926 => h926.elim fun v30 h927 => h927.elim fun v31 h928 => h928.elim fun v32 h929 => h929.elim fun v33 h930 => h930.elim fun v34 h931 => h931.elim fun v35 h932 => h932.elim fun v36 h933 => h933.elim fun v37 h934 => ?_
  clear hp h90 h91 h92 h93 h94 h95 h96 h97 h98 h99 h910 h911 h912 h913 h914 h915 h916 h917 h918 h919 h920 h921 h922 h923 h924 h925 h926 h927 h928 h929 h930 h931 h932 h933
  obtain ⟨rfl, e38, e39, e40, e41, e42, e43, e44, e45, e46, e47, e48, e49, e50, e51, e52, e53, e54, e55, e56, e57, e58, e59, e60, e61, hIX⟩ := h934
  obtain ⟨hzm, hd⟩ := hfr fM hzm hd
  have hzx := hz1
  clear hz1 hfr
  obtain ⟨fX, hfx9⟩ : ∃ g : zM, g = f1 := ⟨_, rfl⟩
  rw [← hfx9] at hIX hd hzx
  clear hfx9
  refine lv_pop hx hb dL_law_1199 rfl ?_
  refine lv_aload_n hx hb dL_law_1200 rfl (lv_at hl 2 rfl) ?_
  refine lv_aload_n hx hb dL_law_1201 rfl (lv_at hl 0 rfl) ?_
  refine lv_iload_n hx hb dL_law_1202 rfl (lv_at hl 3 rfl) ?_
  refine lv_iconst (v := 1) hx hb dL_law_1203 (by decide) ?_
  refine lv_iadd hx hb dL_law_1204 ?_
  refine lv_topi (fun y62 e63 => ?_)
  obtain rfl : y62 = nI (5 * j + 1) := e63.trans (nI_add (5 * j) 1)
  refine z_sld (5 * j + 1) hx hb hXs hbl hbA hS rfl (by omega) (by omega) dL_law_1205 ?_
  refine z_callVi2 (As := [.int (xs (5 * j + 1))]) C hzm hS hA hl (k_X8_seed l D cy fM mo m_wev m_wnb m_wki m_wmy m_wce m_wiw m_wli m_wha m_wwt m_wfy m_wfk m_wem m_wna m_wpl m_whs m_wk1 m_wk2 m_wk3 m_u1 m_u2 m_u3 m_nl m_nn m_nf m_nc m_lk m_ks m_gv m_gu m_gk m_gm m_gc m_gw m_gl m_gh m_gt m_gy m_gq m_ge1 m_gn1 m_gp1 m_gs m_gx1 m_gx2 m_gx3 m_ln m_fz m_sq (xs (5 * j + 1))  hIM) zyX8_seed mML_139 hIM.1 zl8 rfl rfl (Nat.le_of_ble_eq_true rfl) ⟨Nat.le_of_ble_eq_true rfl, Nat.le_of_ble_eq_true rfl⟩ ⟨show 100 + 10 * j + 0 + 0 ≤ 600000 by omega, show 3000 + 60 * j + 0 + 0 ≤ 7302249 by omega⟩ dL_law_1206 (fun r f1 H locs hp hz1 hS hfr => ?_)
  clear hIM
  refine hp.elim fun w64 h90 => h90.elim fun w65 h91 => h91.elim fun w66 h92 => h92.elim fun w67 h93 => h93.elim fun w68 h94 => h94.elim fun w69 h95 => h95.elim fun w70 h96 => h96.elim fun w71 h97 => h97.elim fun w72 h98 => h98.elim fun w73 h99 => h99.elim fun w74 h910 => h910.elim fun w75 h911 => h911.elim fun w76 h912 => h912.elim fun w77 h913 => h913.elim fun w78 h914 => h914.elim fun w79 h915 => h915.elim fun w80 h916 => h916.elim fun w81 h917 => h917.elim fun w82 h918 => h918.elim fun w83 h919 => h919.elim fun w84 h920 => h920.elim fun w85 h921 => h921.elim fun w86 h922 => h922.elim fun w87 h923 => h923.elim fun w88 h924 => h924.elim fun w89 h925 => h925.elim fun w90 h926 => h926.elim fun w91 h927 => h927.elim fun w92 h928 => h928.elim fun w93 h929 => ?_
  clear hp h90 h91 h92 h93 h94 h95 h96 h97 h98 h99 h910 h911 h912 h913 h914 h915 h916 h917 h918 h919 h920 h921 h922 h923 h924 h925 h926 h927 h928
  obtain ⟨rfl, e94, e95, e96, e97, e98, e99, e100, e101, e102, e103, e104, e105, e106, e107, e108, e109, e110, e111, e112, e113, e114, e115, e116, e117, e118, hIM⟩ := h929
  obtain ⟨hzx, hd⟩ := hfr fX hzx (z_dsym hd)
  replace hd := z_dsym hd
  have hzm := hz1
  clear hz1 hfr
  obtain ⟨fM, hfm9⟩ : ∃ g : zM, g = f1 := ⟨_, rfl⟩
  rw [← hfm9] at hIM hd hzm
  clear hfm9
  refine lv_pop hx hb dL_law_1209 rfl ?_
  refine lv_goto (tgt := 1358) hx hb dL_law_1210 (by decide) ?_
  refine W.widen (k := 100 + 10 * (j + 1)) (n := 3000 + 60 * (j + 1)) (show 100 + 10 * j + 0 + 0 ≤ 100 + 10 * (j + 1) by omega) (show 3000 + 60 * j + 0 + 0 ≤ 3000 + 60 * (j + 1) by omega) ?_
  have hPC9 : zPC v9 v15 v16 w77 := by rw [e44, e46, e47, e105]; exact hPC
  have hFF9 : zFF v21 v25 v26 w83 := by rw [e50, e51, e52, e108]; exact hFF
  have hRE9 : zRE v27 v30 v31 v32 v33 w86 := by rw [e53, e54, e55, e56, e57, e112]; exact hRE
  have hKR8 : zKR v34 v35 w88 w89 := by rw [e58, e59, e115, e116]; exact hKR
  exact fin _ _ _ (z_LI hIX hIM hzx hzm hd ⟨(e94.trans e38.symm), (e95.trans e39.symm), (e96.trans e40.symm), (e97.trans e41.symm), (e98.trans e42.symm), (e99.trans e43.symm), (e100.trans e44.symm), (e101.trans e45.symm), (e103.trans e48.symm), (e102.trans e46.symm), (e104.trans e49.symm), (e106.trans e50.symm), (e107.trans e51.symm), (e109.trans e53.symm), (e110.trans e54.symm), (e111.trans e55.symm), (e113.trans e56.symm), (e118.trans e61.symm), (e114.trans e58.symm), (e117.trans e60.symm), hPC9, hFF9, hRE9, hKR8⟩) hS (lv_sub hl [0, 1, 2, 3] rfl)
set_option maxHeartbeats 4000000 in
set_option maxRecDepth 100000 in
theorem law_case_29 {p : Program} {l : Launch} {e : Env} {s : State} {m : MethodId} {below : List Frame} {meth : Method} {c : Code} {D : va_G} {cy : Nat → ClassId} {b L : Nat} {xs : Nat → Int32} {o mo j : Nat} (C : zC D cy p s m #[Value.ref b] meth c RL cL_law 4) (hXs : va_X b L xs s s.heap) (hbl : b < s.heap.size) (hbA : ¬ zLA s b) (hL : L ≤ 2560) (hj : 5 * j + 5 ≤ L) (fin : ∀ (H : Heap) (locs : List Loc) (ls : Array Slot), zLI D cy s o mo H → va_S (zLA s) s.heap H locs → lv_has ls 4 [(0, .ref b), (1, .ref o), (2, .ref mo), (3, .int (nI (5 * j)))] → W p l e room_1 s m #[Value.ref b] below meth c H locs (100 + 10 * (j + 1)) (3000 + 60 * (j + 1)) (lw_Z below #[Value.ref b] s) (F0 m 1358 ls [])) {H : Heap} {locs : List Loc} {ls : Array Slot} (hLI : zLI D cy s o mo H) (hS : va_S (zLA s) s.heap H locs) (hl : lv_has ls 4 [(0, .ref b), (1, .ref o), (2, .ref mo), (3, .int (nI (5 * j)))]) : W p l e room_1 s m #[Value.ref b] below meth c H locs (100 + 10 * j) (3000 + 60 * j) (lw_Z below #[Value.ref b] s) (F0 m 1213 ls []) := by
  have hx := C.1
  have hb := C.2.1
  have hA : ∀ q, s.heap.size ≤ q → zLA s q := fun q h => h
  refine Exists.elim hLI fun fX h90 => h90.elim fun fM h91 => h91.elim fun fa h92 => h92.elim fun fi h93 => h93.elim fun nu h94 => h94.elim fun fm h95 => h95.elim fun co h96 => h96.elim fun en h97 => h97.elim fun ke h98 => h98.elim fun ev h99 => h99.elim fun al h910 => h910.elim fun ra h911 => h911.elim fun kn h912 => h912.elim fun vq h913 => h913.elim fun ge h914 => h914.elim fun ea h915 => h915.elim fun ma h916 => h916.elim fun u1 h917 => h917.elim fun u2 h918 => h918.elim fun u3 h919 => h919.elim fun gv h920 => h920.elim fun nl h921 => h921.elim fun gu h922 => h922.elim fun nn h923 => h923.elim fun ga h924 => h924.elim fun gr h925 => h925.elim fun fg h926 => h926.elim fun pt h927 => h927.elim fun kd h928 => h928.elim fun ln h929 => h929.elim fun pp h930 => h930.elim fun wg h931 => h931.elim fun wd h932 => h932.elim fun hs h933 => h933.elim fun bf h934 => h934.elim fun nf h935 => h935.elim fun gf h936 => h936.elim fun fq h937 => h937.elim fun fk h938 => h938.elim fun fz h939 => h939.elim fun fc h940 => h940.elim fun nc h941 => h941.elim fun gc h942 => h942.elim fun cn h943 => h943.elim fun ce h944 => h944.elim fun cm h945 => h945.elim fun sq h946 => h946.elim fun mb h947 => h947.elim fun ks h948 => h948.elim fun kk h949 => h949.elim fun kv h950 => h950.elim fun lk h951 => h951.elim fun m_wev h952 => h952.elim fun m_wnb h953 => h953.elim fun m_wki h954 => h954.elim fun m_wmy h955 => h955.elim fun m_wce h956 => h956.elim fun m_wiw h957 => h957.elim fun m_wli h958 => h958.elim fun m_wha h959 => h959.elim fun m_wwt h960 => h960.elim fun m_wfy h961 => h961.elim fun m_wfk h962 => h962.elim fun m_wem h963 => h963.elim fun m_wna h964 => h964.elim fun m_wpl h965 => h965.elim fun m_whs h966 => h966.elim fun m_wk1 h967 => h967.elim fun m_wk2 h968 => h968.elim fun m_wk3 h969 => h969.elim fun m_u1 h970 => h970.elim fun m_u2 h971 => h971.elim fun m_u3 h972 => h972.elim fun m_nl h973 => h973.elim fun m_nn h974 => h974.elim fun m_nf h975 => h975.elim fun m_nc h976 => h976.elim fun m_lk h977 => h977.elim fun m_ks h978 => h978.elim fun m_gv h979 => h979.elim fun m_gu h980 => h980.elim fun m_gk h981 => h981.elim fun m_gm h982 => h982.elim fun m_gc h983 => h983.elim fun m_gw h984 => h984.elim fun m_gl h985 => h985.elim fun m_gh h986 => h986.elim fun m_gt h987 => h987.elim fun m_gy h988 => h988.elim fun m_gq h989 => h989.elim fun m_ge1 h990 => h990.elim fun m_gn1 h991 => h991.elim fun m_gp1 h992 => h992.elim fun m_gs h993 => h993.elim fun m_gx1 h994 => h994.elim fun m_gx2 h995 => h995.elim fun m_gx3 h996 => h996.elim fun m_ln h997 => h997.elim fun m_fz h998 => h998.elim fun m_sq h999 => ?_
  clear hLI h90 h91 h92 h93 h94 h95 h96 h97 h98 h99 h910 h911 h912 h913 h914 h915 h916 h917 h918 h919 h920 h921 h922 h923 h924 h925 h926 h927 h928 h929 h930 h931 h932 h933 h934 h935 h936 h937 h938 h939 h940 h941 h942 h943 h944 h945 h946 h947 h948 h949 h950 h951 h952 h953 h954 h955 h956 h957 h958 h959 h960 h961 h962 h963 h964 h965 h966 h967 h968 h969 h970 h971 h972 h973 h974 h975 h976 h977 h978 h979 h980 h981 h982 h983 h984 h985 h986 h987 h988 h989 h990 h991 h992 h993 h994 h995 h996 h997 h998
  obtain ⟨hIX, hIM, hzx, hzm, hd, rfl, rfl, rfl, rfl, rfl, rfl, rfl, rfl, rfl, rfl, rfl, rfl, rfl, rfl, rfl, rfl, rfl, rfl, rfl, rfl, hPC, hFF, hRE, hKR⟩ := h999
  have hl15 := zIM_ln hIM
  have hfz4 := zIM_fz hIM
  have hn60 := zIM_n60 hIM
  have hf60 := zIM_f60 hIM
  have hc60 := zIM_c60 hIM
  have hs40 := zIM_s40 hIM
  refine lv_aload_n hx hb dL_law_1213 rfl (lv_at hl 1 rfl) ?_
  refine lv_aload_n hx hb dL_law_1214 rfl (lv_at hl 0 rfl) ?_
  refine lv_iload_n hx hb dL_law_1215 rfl (lv_at hl 3 rfl) ?_
  refine lv_iconst (v := 1) hx hb dL_law_1216 (by decide) ?_
  refine lv_iadd hx hb dL_law_1217 ?_
  refine lv_topi (fun y1 e2 => ?_)
  obtain rfl : y1 = nI (5 * j + 1) := e2.trans (nI_add (5 * j) 1)
  refine z_sld (5 * j + 1) hx hb hXs hbl hbA hS rfl (by omega) (by omega) dL_law_1218 ?_
  refine lv_aload_n hx hb dL_law_1219 rfl (lv_at hl 0 rfl) ?_
  refine lv_iload_n hx hb dL_law_1220 rfl (lv_at hl 3 rfl) ?_
  refine lv_iconst (v := 2) hx hb dL_law_1221 (by decide) ?_
  refine lv_iadd hx hb dL_law_1222 ?_
  refine lv_topi (fun y3 e4 => ?_)
  obtain rfl : y3 = nI (5 * j + 2) := e4.trans (nI_add (5 * j) 2)
  refine z_sld (5 * j + 2) hx hb hXs hbl hbA hS rfl (by omega) (by omega) dL_law_1223 ?_
  refine z_callVi2 (As := [.int (xs (5 * j + 1)), .int (xs (5 * j + 2))]) C hzx hS hA hl (k_X7_told l D cy fX o fa fi nu fm co en ke ev al ra kn vq ge ea ma m_u1 m_u2 m_u3 m_gv m_nl m_gu m_nn ga gr fg pt m_gk m_ln pp wg m_gw m_gh bf m_nf gf fq fk m_fz fc m_nc gc cn m_ge1 m_gn1 m_sq mb m_ks kk m_gx3 m_lk (xs (5 * j + 1)) (xs (5 * j + 2))  hIX) zyX7_told mML_140 hIX.1 zl7 rfl rfl (Nat.le_of_ble_eq_true rfl) ⟨Nat.le_of_ble_eq_true rfl, Nat.le_of_ble_eq_true rfl⟩ ⟨show 100 + 10 * j + 0 ≤ 600000 by omega, show 3000 + 60 * j + 0 ≤ 7302249 by omega⟩ dL_law_1224 (fun r5 f1 H locs hp hz1 hS hfr => ?_)
  clear hIX
  refine hp.elim fun v6 h90 => h90.elim fun v7 h91 => h91.elim fun v8 h92 => h92.elim fun v9 h93 => h93.elim fun v10 h94 => h94.elim fun v11 h95 => h95.elim fun v12 h96 => h96.elim fun v13 h97 => h97.elim fun v14 h98 => h98.elim fun v15 h99 => h99.elim fun v16 h910 => h910.elim fun v17 h911 => h911.elim fun v18 h912 => h912.elim fun v19 h913 => h913.elim fun v20 h914 => h914.elim fun v21 h915 => h915.elim fun v22 h916 => h916.elim fun v23 h917 => h917.elim fun v24 h918 => h918.elim fun v25 h919 => h919.elim fun v26 h920 => h920.elim fun v27 h921 => h921.elim fun v28 h922 => h922.elim fun v29 h923 => h923.elim fun v30 h924 => h924.elim fun v31 h925 => h925.elim fun v32 h926 => h926.elim fun v33 h927 => h927.elim fun v34 h928 => h928.elim fun v35 h929 => h929.elim fun v36 h930 => h930.elim fun v37 h931 => h931.elim fun v38 h932 => h932.elim fun v39 h933 => h933.elim fun v40 h934 => ?_
  clear hp h90 h91 h92 h93 h94 h95 h96 h97 h98 h99 h910 h911 h912 h913 h914 h915 h916 h917 h918 h919 h920 h921 h922 h923 h924 h925 h926 h927 h928 h929 h930 h931 h932 h933
  obtain ⟨e41, e42, e43, e44, e45, e46, e47, e48, e49, e50, e51, e52, e53, e54, e55, e56, e57, e58, e59, e60, e61, e62, e63, e64, e65, hIX⟩ := h934
  obtain ⟨hzm, hd⟩ := hfr fM hzm hd
  have hzx := hz1
  clear hz1 hfr
  obtain ⟨fX, hfx9⟩ : ∃ g : zM, g = f1 := ⟨_, rfl⟩
  rw [← hfx9] at hIX hd hzx
  clear hfx9
  refine lv_pop hx hb dL_law_1227 rfl ?_
  refine lv_aload_n hx hb dL_law_1228 rfl (lv_at hl 2 rfl) ?_
  refine lv_aload_n hx hb dL_law_1229 rfl (lv_at hl 0 rfl) ?_
  refine lv_iload_n hx hb dL_law_1230 rfl (lv_at hl 3 rfl) ?_
  refine lv_iconst (v := 1) hx hb dL_law_1231 (by decide) ?_
  refine lv_iadd hx hb dL_law_1232 ?_
  refine lv_topi (fun y66 e67 => ?_)
  obtain rfl : y66 = nI (5 * j + 1) := e67.trans (nI_add (5 * j) 1)
  refine z_sld (5 * j + 1) hx hb hXs hbl hbA hS rfl (by omega) (by omega) dL_law_1233 ?_
  refine lv_aload_n hx hb dL_law_1234 rfl (lv_at hl 0 rfl) ?_
  refine lv_iload_n hx hb dL_law_1235 rfl (lv_at hl 3 rfl) ?_
  refine lv_iconst (v := 2) hx hb dL_law_1236 (by decide) ?_
  refine lv_iadd hx hb dL_law_1237 ?_
  refine lv_topi (fun y68 e69 => ?_)
  obtain rfl : y68 = nI (5 * j + 2) := e69.trans (nI_add (5 * j) 2)
  refine z_sld (5 * j + 2) hx hb hXs hbl hbA hS rfl (by omega) (by omega) dL_law_1238 ?_
  refine z_callVi2 (As := [.int (xs (5 * j + 1)), .int (xs (5 * j + 2))]) C hzm hS hA hl (k_X8_told l D cy fM mo m_wev m_wnb m_wki m_wmy m_wce m_wiw m_wli m_wha m_wwt m_wfy m_wfk m_wem m_wna m_wpl m_whs m_wk1 m_wk2 m_wk3 m_u1 m_u2 m_u3 m_nl m_nn m_nf m_nc m_lk m_ks m_gv m_gu m_gk m_gm m_gc m_gw m_gl m_gh m_gt m_gy m_gq m_ge1 m_gn1 m_gp1 m_gs m_gx1 m_gx2 m_gx3 m_ln m_fz m_sq (xs (5 * j + 1)) (xs (5 * j + 2))  hIM) zyX8_told mML_143 hIM.1 zl8 rfl rfl (Nat.le_of_ble_eq_true rfl) ⟨Nat.le_of_ble_eq_true rfl, Nat.le_of_ble_eq_true rfl⟩ ⟨show 100 + 10 * j + 0 + 0 ≤ 600000 by omega, show 3000 + 60 * j + 0 + 0 ≤ 7302249 by omega⟩ dL_law_1239 (fun r70 f1 H locs hp hz1 hS hfr => ?_)
  clear hIM
  refine hp.elim fun w71 h90 => h90.elim fun w72 h91 => h91.elim fun w73 h92 => h92.elim fun w74 h93 => h93.elim fun w75 h94 => h94.elim fun w76 h95 => h95.elim fun w77 h96 => h96.elim fun w78 h97 => h97.elim fun w79 h98 => h98.elim fun w80 h99 => h99.elim fun w81 h910 => h910.elim fun w82 h911 => h911.elim fun w83 h912 => h912.elim fun w84 h913 => h913.elim fun w85 h914 => h914.elim fun w86 h915 => h915.elim fun w87 h916 => h916.elim fun w88 h917 => h917.elim fun w89 h918 => h918.elim fun w90 h919 => h919.elim fun w91 h920 => h920.elim fun w92 h921 => h921.elim fun w93 h922 => h922.elim fun w94 h923 => h923.elim fun w95 h924 => h924.elim fun w96 h925 => h925.elim fun w97 h926 => h926.elim fun w98 h927 => h927.elim fun w99 h928 => h928.elim fun w100 h929 => ?_
  clear hp h90 h91 h92 h93 h94 h95 h96 h97 h98 h99 h910 h911 h912 h913 h914 h915 h916 h917 h918 h919 h920 h921 h922 h923 h924 h925 h926 h927 h928
  obtain ⟨e101, e102, e103, e104, e105, e106, e107, e108, e109, e110, e111, e112, e113, e114, e115, e116, e117, e118, e119, e120, e121, e122, e123, e124, e125, e126, hIM⟩ := h929
  obtain ⟨hzx, hd⟩ := hfr fX hzx (z_dsym hd)
  replace hd := z_dsym hd
  have hzm := hz1
  clear hz1 hfr
  obtain ⟨fM, hfm9⟩ : ∃ g : zM, g = f1 := ⟨_, rfl⟩
  rw [← hfm9] at hIM hd hzm
  clear hfm9
  have hr9 := law_told hRE hc60 e65 e126
  subst hr9
  refine lv_pop hx hb dL_law_1242 rfl ?_
  refine lv_goto (tgt := 1358) hx hb dL_law_1243 (by decide) ?_
  refine W.widen (k := 100 + 10 * (j + 1)) (n := 3000 + 60 * (j + 1)) (show 100 + 10 * j + 0 + 0 ≤ 100 + 10 * (j + 1) by omega) (show 3000 + 60 * j + 0 + 0 ≤ 3000 + 60 * (j + 1) by omega) ?_
  have hPC9 : zPC v12 v18 v19 w84 := by rw [e47, e49, e50, e112]; exact hPC
  have hFF9 : zFF v24 v28 v29 w90 := by rw [e53, e54, e55, e115]; exact hFF
  have hRE9 : zRE v30 v33 v34 v35 v36 w93 := by rw [e56, e57, e58, e59, e60, e119]; exact hRE
  have hKR8 : zKR v37 v38 w95 w96 := by rw [e61, e62, e122, e123]; exact hKR
  exact fin _ _ _ (z_LI hIX hIM hzx hzm hd ⟨(e101.trans e41.symm), (e102.trans e42.symm), (e103.trans e43.symm), (e104.trans e44.symm), (e105.trans e45.symm), (e106.trans e46.symm), (e107.trans e47.symm), (e108.trans e48.symm), (e110.trans e51.symm), (e109.trans e49.symm), (e111.trans e52.symm), (e113.trans e53.symm), (e114.trans e54.symm), (e116.trans e56.symm), (e117.trans e57.symm), (e118.trans e58.symm), (e120.trans e59.symm), (e125.trans e64.symm), (e121.trans e61.symm), (e124.trans e63.symm), hPC9, hFF9, hRE9, hKR8⟩) hS (lv_sub hl [0, 1, 2, 3] rfl)
set_option maxHeartbeats 4000000 in
set_option maxRecDepth 100000 in
theorem law_case_30 {p : Program} {l : Launch} {e : Env} {s : State} {m : MethodId} {below : List Frame} {meth : Method} {c : Code} {D : va_G} {cy : Nat → ClassId} {b L : Nat} {xs : Nat → Int32} {o mo j : Nat} (C : zC D cy p s m #[Value.ref b] meth c RL cL_law 4) (hXs : va_X b L xs s s.heap) (hbl : b < s.heap.size) (hbA : ¬ zLA s b) (hL : L ≤ 2560) (hj : 5 * j + 5 ≤ L) (fin : ∀ (H : Heap) (locs : List Loc) (ls : Array Slot), zLI D cy s o mo H → va_S (zLA s) s.heap H locs → lv_has ls 4 [(0, .ref b), (1, .ref o), (2, .ref mo), (3, .int (nI (5 * j)))] → W p l e room_1 s m #[Value.ref b] below meth c H locs (100 + 10 * (j + 1)) (3000 + 60 * (j + 1)) (lw_Z below #[Value.ref b] s) (F0 m 1358 ls [])) {H : Heap} {locs : List Loc} {ls : Array Slot} (hLI : zLI D cy s o mo H) (hS : va_S (zLA s) s.heap H locs) (hl : lv_has ls 4 [(0, .ref b), (1, .ref o), (2, .ref mo), (3, .int (nI (5 * j)))]) : W p l e room_1 s m #[Value.ref b] below meth c H locs (100 + 10 * j) (3000 + 60 * j) (lw_Z below #[Value.ref b] s) (F0 m 1246 ls []) := by
  have hx := C.1
  have hb := C.2.1
  have hA : ∀ q, s.heap.size ≤ q → zLA s q := fun q h => h
  refine Exists.elim hLI fun fX h90 => h90.elim fun fM h91 => h91.elim fun fa h92 => h92.elim fun fi h93 => h93.elim fun nu h94 => h94.elim fun fm h95 => h95.elim fun co h96 => h96.elim fun en h97 => h97.elim fun ke h98 => h98.elim fun ev h99 => h99.elim fun al h910 => h910.elim fun ra h911 => h911.elim fun kn h912 => h912.elim fun vq h913 => h913.elim fun ge h914 => h914.elim fun ea h915 => h915.elim fun ma h916 => h916.elim fun u1 h917 => h917.elim fun u2 h918 => h918.elim fun u3 h919 => h919.elim fun gv h920 => h920.elim fun nl h921 => h921.elim fun gu h922 => h922.elim fun nn h923 => h923.elim fun ga h924 => h924.elim fun gr h925 => h925.elim fun fg h926 => h926.elim fun pt h927 => h927.elim fun kd h928 => h928.elim fun ln h929 => h929.elim fun pp h930 => h930.elim fun wg h931 => h931.elim fun wd h932 => h932.elim fun hs h933 => h933.elim fun bf h934 => h934.elim fun nf h935 => h935.elim fun gf h936 => h936.elim fun fq h937 => h937.elim fun fk h938 => h938.elim fun fz h939 => h939.elim fun fc h940 => h940.elim fun nc h941 => h941.elim fun gc h942 => h942.elim fun cn h943 => h943.elim fun ce h944 => h944.elim fun cm h945 => h945.elim fun sq h946 => h946.elim fun mb h947 => h947.elim fun ks h948 => h948.elim fun kk h949 => h949.elim fun kv h950 => h950.elim fun lk h951 => h951.elim fun m_wev h952 => h952.elim fun m_wnb h953 => h953.elim fun m_wki h954 => h954.elim fun m_wmy h955 => h955.elim fun m_wce h956 => h956.elim fun m_wiw h957 => h957.elim fun m_wli h958 => h958.elim fun m_wha h959 => h959.elim fun m_wwt h960 => h960.elim fun m_wfy h961 => h961.elim fun m_wfk h962 => h962.elim fun m_wem h963 => h963.elim fun m_wna h964 => h964.elim fun m_wpl h965 => h965.elim fun m_whs h966 => h966.elim fun m_wk1 h967 => h967.elim fun m_wk2 h968 => h968.elim fun m_wk3 h969 => h969.elim fun m_u1 h970 => h970.elim fun m_u2 h971 => h971.elim fun m_u3 h972 => h972.elim fun m_nl h973 => h973.elim fun m_nn h974 => h974.elim fun m_nf h975 => h975.elim fun m_nc h976 => h976.elim fun m_lk h977 => h977.elim fun m_ks h978 => h978.elim fun m_gv h979 => h979.elim fun m_gu h980 => h980.elim fun m_gk h981 => h981.elim fun m_gm h982 => h982.elim fun m_gc h983 => h983.elim fun m_gw h984 => h984.elim fun m_gl h985 => h985.elim fun m_gh h986 => h986.elim fun m_gt h987 => h987.elim fun m_gy h988 => h988.elim fun m_gq h989 => h989.elim fun m_ge1 h990 => h990.elim fun m_gn1 h991 => h991.elim fun m_gp1 h992 => h992.elim fun m_gs h993 => h993.elim fun m_gx1 h994 => h994.elim fun m_gx2 h995 => h995.elim fun m_gx3 h996 => h996.elim fun m_ln h997 => h997.elim fun m_fz h998 => h998.elim fun m_sq h999 => ?_
  clear hLI h90 h91 h92 h93 h94 h95 h96 h97 h98 h99 h910 h911 h912 h913 h914 h915 h916 h917 h918 h919 h920 h921 h922 h923 h924 h925 h926 h927 h928 h929 h930 h931 h932 h933 h934 h935 h936 h937 h938 h939 h940 h941 h942 h943 h944 h945 h946 h947 h948 h949 h950 h951 h952 h953 h954 h955 h956 h957 h958 h959 h960 h961 h962 h963 h964 h965 h966 h967 h968 h969 h970 h971 h972 h973 h974 h975 h976 h977 h978 h979 h980 h981 h982 h983 h984 h985 h986 h987 h988 h989 h990 h991 h992 h993 h994 h995 h996 h997 h998
  obtain ⟨hIX, hIM, hzx, hzm, hd, rfl, rfl, rfl, rfl, rfl, rfl, rfl, rfl, rfl, rfl, rfl, rfl, rfl, rfl, rfl, rfl, rfl, rfl, rfl, rfl, hPC, hFF, hRE, hKR⟩ := h999
  have hl15 := zIM_ln hIM
  have hfz4 := zIM_fz hIM
  have hn60 := zIM_n60 hIM
  have hf60 := zIM_f60 hIM
  have hc60 := zIM_c60 hIM
  have hs40 := zIM_s40 hIM
  refine lv_aload_n hx hb dL_law_1246 rfl (lv_at hl 1 rfl) ?_
  refine lv_aload_n hx hb dL_law_1247 rfl (lv_at hl 0 rfl) ?_
  refine lv_iload_n hx hb dL_law_1248 rfl (lv_at hl 3 rfl) ?_
  refine lv_iconst (v := 1) hx hb dL_law_1249 (by decide) ?_
  refine lv_iadd hx hb dL_law_1250 ?_
  refine lv_topi (fun y1 e2 => ?_)
  obtain rfl : y1 = nI (5 * j + 1) := e2.trans (nI_add (5 * j) 1)
  refine z_sld (5 * j + 1) hx hb hXs hbl hbA hS rfl (by omega) (by omega) dL_law_1251 ?_
  refine lv_aload_n hx hb dL_law_1252 rfl (lv_at hl 0 rfl) ?_
  refine lv_iload_n hx hb dL_law_1253 rfl (lv_at hl 3 rfl) ?_
  refine lv_iconst (v := 2) hx hb dL_law_1254 (by decide) ?_
  refine lv_iadd hx hb dL_law_1255 ?_
  refine lv_topi (fun y3 e4 => ?_)
  obtain rfl : y3 = nI (5 * j + 2) := e4.trans (nI_add (5 * j) 2)
  refine z_sld (5 * j + 2) hx hb hXs hbl hbA hS rfl (by omega) (by omega) dL_law_1256 ?_
  refine z_callVi2 (As := [.int (xs (5 * j + 1)), .int (xs (5 * j + 2))]) C hzx hS hA hl (k_X7_placed l D cy fX o fa fi nu fm co en ke ev al ra kn vq ge ea ma m_u1 m_u2 m_u3 m_gv m_nl m_gu m_nn ga gr fg pt m_gk m_ln pp wg m_gw m_gh bf m_nf gf fq fk m_fz fc m_nc gc cn m_ge1 m_gn1 m_sq mb m_ks kk m_gx3 m_lk (xs (5 * j + 1)) (xs (5 * j + 2))  hIX) zyX7_placed mML_144 hIX.1 zl7 rfl rfl (Nat.le_of_ble_eq_true rfl) ⟨Nat.le_of_ble_eq_true rfl, Nat.le_of_ble_eq_true rfl⟩ ⟨show 100 + 10 * j + 0 ≤ 600000 by omega, show 3000 + 60 * j + 0 ≤ 7302249 by omega⟩ dL_law_1257 (fun r5 f1 H locs hp hz1 hS hfr => ?_)
  clear hIX
  refine hp.elim fun v6 h90 => h90.elim fun v7 h91 => h91.elim fun v8 h92 => h92.elim fun v9 h93 => h93.elim fun v10 h94 => h94.elim fun v11 h95 => h95.elim fun v12 h96 => h96.elim fun v13 h97 => h97.elim fun v14 h98 => h98.elim fun v15 h99 => h99.elim fun v16 h910 => h910.elim fun v17 h911 => h911.elim fun v18 h912 => h912.elim fun v19 h913 => h913.elim fun v20 h914 => h914.elim fun v21 h915 => h915.elim fun v22 h916 => h916.elim fun v23 h917 => h917.elim fun v24 h918 => h918.elim fun v25 h919 => h919.elim fun v26 h920 => h920.elim fun v27 h921 => h921.elim fun v28 h922 => h922.elim fun v29 h923 => h923.elim fun v30 h924 => h924.elim fun v31 h925 => h925.elim fun v32 h926 => h926.elim fun v33 h927 => h927.elim fun v34 h928 => h928.elim fun v35 h929 => h929.elim fun v36 h930 => h930.elim fun v37 h931 => h931.elim fun v38 h932 => h932.elim fun v39 h933 => h933.elim fun v40 h934 => ?_
  clear hp h90 h91 h92 h93 h94 h95 h96 h97 h98 h99 h910 h911 h912 h913 h914 h915 h916 h917 h918 h919 h920 h921 h922 h923 h924 h925 h926 h927 h928 h929 h930 h931 h932 h933
  obtain ⟨e41, e42, e43, e44, e45, e46, e47, e48, e49, e50, e51, e52, e53, e54, e55, e56, e57, e58, e59, e60, e61, e62, e63, e64, e65, hIX⟩ := h934
  obtain ⟨hzm, hd⟩ := hfr fM hzm hd
  have hzx := hz1
  clear hz1 hfr
  obtain ⟨fX, hfx9⟩ : ∃ g : zM, g = f1 := ⟨_, rfl⟩
  rw [← hfx9] at hIX hd hzx
  clear hfx9
  refine lv_pop hx hb dL_law_1260 rfl ?_
  refine lv_aload_n hx hb dL_law_1261 rfl (lv_at hl 2 rfl) ?_
  refine lv_aload_n hx hb dL_law_1262 rfl (lv_at hl 0 rfl) ?_
  refine lv_iload_n hx hb dL_law_1263 rfl (lv_at hl 3 rfl) ?_
  refine lv_iconst (v := 1) hx hb dL_law_1264 (by decide) ?_
  refine lv_iadd hx hb dL_law_1265 ?_
  refine lv_topi (fun y66 e67 => ?_)
  obtain rfl : y66 = nI (5 * j + 1) := e67.trans (nI_add (5 * j) 1)
  refine z_sld (5 * j + 1) hx hb hXs hbl hbA hS rfl (by omega) (by omega) dL_law_1266 ?_
  refine lv_aload_n hx hb dL_law_1267 rfl (lv_at hl 0 rfl) ?_
  refine lv_iload_n hx hb dL_law_1268 rfl (lv_at hl 3 rfl) ?_
  refine lv_iconst (v := 2) hx hb dL_law_1269 (by decide) ?_
  refine lv_iadd hx hb dL_law_1270 ?_
  refine lv_topi (fun y68 e69 => ?_)
  obtain rfl : y68 = nI (5 * j + 2) := e69.trans (nI_add (5 * j) 2)
  refine z_sld (5 * j + 2) hx hb hXs hbl hbA hS rfl (by omega) (by omega) dL_law_1271 ?_
  refine z_callVi2 (As := [.int (xs (5 * j + 1)), .int (xs (5 * j + 2))]) C hzm hS hA hl (k_X8_placed l D cy fM mo m_wev m_wnb m_wki m_wmy m_wce m_wiw m_wli m_wha m_wwt m_wfy m_wfk m_wem m_wna m_wpl m_whs m_wk1 m_wk2 m_wk3 m_u1 m_u2 m_u3 m_nl m_nn m_nf m_nc m_lk m_ks m_gv m_gu m_gk m_gm m_gc m_gw m_gl m_gh m_gt m_gy m_gq m_ge1 m_gn1 m_gp1 m_gs m_gx1 m_gx2 m_gx3 m_ln m_fz m_sq (xs (5 * j + 1)) (xs (5 * j + 2))  hIM) zyX8_placed mML_147 hIM.1 zl8 rfl rfl (Nat.le_of_ble_eq_true rfl) ⟨Nat.le_of_ble_eq_true rfl, Nat.le_of_ble_eq_true rfl⟩ ⟨show 100 + 10 * j + 0 + 0 ≤ 600000 by omega, show 3000 + 60 * j + 0 + 0 ≤ 7302249 by omega⟩ dL_law_1272 (fun r70 f1 H locs hp hz1 hS hfr => ?_)
  clear hIM
  refine hp.elim fun w71 h90 => h90.elim fun w72 h91 => h91.elim fun w73 h92 => h92.elim fun w74 h93 => h93.elim fun w75 h94 => h94.elim fun w76 h95 => h95.elim fun w77 h96 => h96.elim fun w78 h97 => h97.elim fun w79 h98 => h98.elim fun w80 h99 => h99.elim fun w81 h910 => h910.elim fun w82 h911 => h911.elim fun w83 h912 => h912.elim fun w84 h913 => h913.elim fun w85 h914 => h914.elim fun w86 h915 => h915.elim fun w87 h916 => h916.elim fun w88 h917 => h917.elim fun w89 h918 => h918.elim fun w90 h919 => h919.elim fun w91 h920 => h920.elim fun w92 h921 => h921.elim fun w93 h922 => h922.elim fun w94 h923 => h923.elim fun w95 h924 => h924.elim fun w96 h925 => h925.elim fun w97 h926 => h926.elim fun w98 h927 => h927.elim fun w99 h928 => h928.elim fun w100 h929 => ?_
  clear hp h90 h91 h92 h93 h94 h95 h96 h97 h98 h99 h910 h911 h912 h913 h914 h915 h916 h917 h918 h919 h920 h921 h922 h923 h924 h925 h926 h927 h928
  obtain ⟨e101, e102, e103, e104, e105, e106, e107, e108, e109, e110, e111, e112, e113, e114, e115, e116, e117, e118, e119, e120, e121, e122, e123, e124, e125, e126, hIM⟩ := h929
  obtain ⟨hzx, hd⟩ := hfr fX hzx (z_dsym hd)
  replace hd := z_dsym hd
  have hzm := hz1
  clear hz1 hfr
  obtain ⟨fM, hfm9⟩ : ∃ g : zM, g = f1 := ⟨_, rfl⟩
  rw [← hfm9] at hIM hd hzm
  clear hfm9
  have hr9 := law_placed hRE hc60 e65 e126
  subst hr9
  refine lv_pop hx hb dL_law_1275 rfl ?_
  refine lv_goto (tgt := 1358) hx hb dL_law_1276 (by decide) ?_
  refine W.widen (k := 100 + 10 * (j + 1)) (n := 3000 + 60 * (j + 1)) (show 100 + 10 * j + 0 + 0 ≤ 100 + 10 * (j + 1) by omega) (show 3000 + 60 * j + 0 + 0 ≤ 3000 + 60 * (j + 1) by omega) ?_
  have hPC9 : zPC v12 v18 v19 w84 := by rw [e47, e49, e50, e112]; exact hPC
  have hFF9 : zFF v24 v28 v29 w90 := by rw [e53, e54, e55, e115]; exact hFF
  have hRE9 : zRE v30 v33 v34 v35 v36 w93 := by rw [e56, e57, e58, e59, e60, e119]; exact hRE
  have hKR8 : zKR v37 v38 w95 w96 := by rw [e61, e62, e122, e123]; exact hKR
  exact fin _ _ _ (z_LI hIX hIM hzx hzm hd ⟨(e101.trans e41.symm), (e102.trans e42.symm), (e103.trans e43.symm), (e104.trans e44.symm), (e105.trans e45.symm), (e106.trans e46.symm), (e107.trans e47.symm), (e108.trans e48.symm), (e110.trans e51.symm), (e109.trans e49.symm), (e111.trans e52.symm), (e113.trans e53.symm), (e114.trans e54.symm), (e116.trans e56.symm), (e117.trans e57.symm), (e118.trans e58.symm), (e120.trans e59.symm), (e125.trans e64.symm), (e121.trans e61.symm), (e124.trans e63.symm), hPC9, hFF9, hRE9, hKR8⟩) hS (lv_sub hl [0, 1, 2, 3] rfl)
set_option maxHeartbeats 4000000 in
set_option maxRecDepth 100000 in
theorem law_case_31 {p : Program} {l : Launch} {e : Env} {s : State} {m : MethodId} {below : List Frame} {meth : Method} {c : Code} {D : va_G} {cy : Nat → ClassId} {b L : Nat} {xs : Nat → Int32} {o mo j : Nat} (C : zC D cy p s m #[Value.ref b] meth c RL cL_law 4) (hXs : va_X b L xs s s.heap) (hbl : b < s.heap.size) (hbA : ¬ zLA s b) (hL : L ≤ 2560) (hj : 5 * j + 5 ≤ L) (fin : ∀ (H : Heap) (locs : List Loc) (ls : Array Slot), zLI D cy s o mo H → va_S (zLA s) s.heap H locs → lv_has ls 4 [(0, .ref b), (1, .ref o), (2, .ref mo), (3, .int (nI (5 * j)))] → W p l e room_1 s m #[Value.ref b] below meth c H locs (100 + 10 * (j + 1)) (3000 + 60 * (j + 1)) (lw_Z below #[Value.ref b] s) (F0 m 1358 ls [])) {H : Heap} {locs : List Loc} {ls : Array Slot} (hLI : zLI D cy s o mo H) (hS : va_S (zLA s) s.heap H locs) (hl : lv_has ls 4 [(0, .ref b), (1, .ref o), (2, .ref mo), (3, .int (nI (5 * j)))]) : W p l e room_1 s m #[Value.ref b] below meth c H locs (100 + 10 * j) (3000 + 60 * j) (lw_Z below #[Value.ref b] s) (F0 m 1279 ls []) := by
  have hx := C.1
  have hb := C.2.1
  have hA : ∀ q, s.heap.size ≤ q → zLA s q := fun q h => h
  refine Exists.elim hLI fun fX h90 => h90.elim fun fM h91 => h91.elim fun fa h92 => h92.elim fun fi h93 => h93.elim fun nu h94 => h94.elim fun fm h95 => h95.elim fun co h96 => h96.elim fun en h97 => h97.elim fun ke h98 => h98.elim fun ev h99 => h99.elim fun al h910 => h910.elim fun ra h911 => h911.elim fun kn h912 => h912.elim fun vq h913 => h913.elim fun ge h914 => h914.elim fun ea h915 => h915.elim fun ma h916 => h916.elim fun u1 h917 => h917.elim fun u2 h918 => h918.elim fun u3 h919 => h919.elim fun gv h920 => h920.elim fun nl h921 => h921.elim fun gu h922 => h922.elim fun nn h923 => h923.elim fun ga h924 => h924.elim fun gr h925 => h925.elim fun fg h926 => h926.elim fun pt h927 => h927.elim fun kd h928 => h928.elim fun ln h929 => h929.elim fun pp h930 => h930.elim fun wg h931 => h931.elim fun wd h932 => h932.elim fun hs h933 => h933.elim fun bf h934 => h934.elim fun nf h935 => h935.elim fun gf h936 => h936.elim fun fq h937 => h937.elim fun fk h938 => h938.elim fun fz h939 => h939.elim fun fc h940 => h940.elim fun nc h941 => h941.elim fun gc h942 => h942.elim fun cn h943 => h943.elim fun ce h944 => h944.elim fun cm h945 => h945.elim fun sq h946 => h946.elim fun mb h947 => h947.elim fun ks h948 => h948.elim fun kk h949 => h949.elim fun kv h950 => h950.elim fun lk h951 => h951.elim fun m_wev h952 => h952.elim fun m_wnb h953 => h953.elim fun m_wki h954 => h954.elim fun m_wmy h955 => h955.elim fun m_wce h956 => h956.elim fun m_wiw h957 => h957.elim fun m_wli h958 => h958.elim fun m_wha h959 => h959.elim fun m_wwt h960 => h960.elim fun m_wfy h961 => h961.elim fun m_wfk h962 => h962.elim fun m_wem h963 => h963.elim fun m_wna h964 => h964.elim fun m_wpl h965 => h965.elim fun m_whs h966 => h966.elim fun m_wk1 h967 => h967.elim fun m_wk2 h968 => h968.elim fun m_wk3 h969 => h969.elim fun m_u1 h970 => h970.elim fun m_u2 h971 => h971.elim fun m_u3 h972 => h972.elim fun m_nl h973 => h973.elim fun m_nn h974 => h974.elim fun m_nf h975 => h975.elim fun m_nc h976 => h976.elim fun m_lk h977 => h977.elim fun m_ks h978 => h978.elim fun m_gv h979 => h979.elim fun m_gu h980 => h980.elim fun m_gk h981 => h981.elim fun m_gm h982 => h982.elim fun m_gc h983 => h983.elim fun m_gw h984 => h984.elim fun m_gl h985 => h985.elim fun m_gh h986 => h986.elim fun m_gt h987 => h987.elim fun m_gy h988 => h988.elim fun m_gq h989 => h989.elim fun m_ge1 h990 => h990.elim fun m_gn1 h991 => h991.elim fun m_gp1 h992 => h992.elim fun m_gs h993 => h993.elim fun m_gx1 h994 => h994.elim fun m_gx2 h995 => h995.elim fun m_gx3 h996 => h996.elim fun m_ln h997 => h997.elim fun m_fz h998 => h998.elim fun m_sq h999 => ?_
  clear hLI h90 h91 h92 h93 h94 h95 h96 h97 h98 h99 h910 h911 h912 h913 h914 h915 h916 h917 h918 h919 h920 h921 h922 h923 h924 h925 h926 h927 h928 h929 h930 h931 h932 h933 h934 h935 h936 h937 h938 h939 h940 h941 h942 h943 h944 h945 h946 h947 h948 h949 h950 h951 h952 h953 h954 h955 h956 h957 h958 h959 h960 h961 h962 h963 h964 h965 h966 h967 h968 h969 h970 h971 h972 h973 h974 h975 h976 h977 h978 h979 h980 h981 h982 h983 h984 h985 h986 h987 h988 h989 h990 h991 h992 h993 h994 h995 h996 h997 h998
  obtain ⟨hIX, hIM, hzx, hzm, hd, rfl, rfl, rfl, rfl, rfl, rfl, rfl, rfl, rfl, rfl, rfl, rfl, rfl, rfl, rfl, rfl, rfl, rfl, rfl, rfl, hPC, hFF, hRE, hKR⟩ := h999
  have hl15 := zIM_ln hIM
  have hfz4 := zIM_fz hIM
  have hn60 := zIM_n60 hIM
  have hf60 := zIM_f60 hIM
  have hc60 := zIM_c60 hIM
  have hs40 := zIM_s40 hIM
  refine lv_aload_n hx hb dL_law_1279 rfl (lv_at hl 1 rfl) ?_
  refine lv_aload_n hx hb dL_law_1280 rfl (lv_at hl 0 rfl) ?_
  refine lv_iload_n hx hb dL_law_1281 rfl (lv_at hl 3 rfl) ?_
  refine lv_iconst (v := 1) hx hb dL_law_1282 (by decide) ?_
  refine lv_iadd hx hb dL_law_1283 ?_
  refine lv_topi (fun y1 e2 => ?_)
  obtain rfl : y1 = nI (5 * j + 1) := e2.trans (nI_add (5 * j) 1)
  refine z_sld (5 * j + 1) hx hb hXs hbl hbA hS rfl (by omega) (by omega) dL_law_1284 ?_
  refine lv_aload_n hx hb dL_law_1285 rfl (lv_at hl 0 rfl) ?_
  refine lv_iload_n hx hb dL_law_1286 rfl (lv_at hl 3 rfl) ?_
  refine lv_iconst (v := 2) hx hb dL_law_1287 (by decide) ?_
  refine lv_iadd hx hb dL_law_1288 ?_
  refine lv_topi (fun y3 e4 => ?_)
  obtain rfl : y3 = nI (5 * j + 2) := e4.trans (nI_add (5 * j) 2)
  refine z_sld (5 * j + 2) hx hb hXs hbl hbA hS rfl (by omega) (by omega) dL_law_1289 ?_
  refine z_callVi2 (As := [.int (xs (5 * j + 1)), .int (xs (5 * j + 2))]) C hzx hS hA hl (k_X7_put l D cy fX o fa fi nu fm co en ke ev al ra kn vq ge ea ma m_u1 m_u2 m_u3 m_gv m_nl m_gu m_nn ga gr fg pt m_gk m_ln pp wg m_gw m_gh bf m_nf gf fq fk m_fz fc m_nc gc cn m_ge1 m_gn1 m_sq mb m_ks kk m_gx3 m_lk (xs (5 * j + 1)) (xs (5 * j + 2))  hIX) zyX7_put mML_148 hIX.1 zl7 rfl rfl (Nat.le_of_ble_eq_true rfl) ⟨Nat.le_of_ble_eq_true rfl, Nat.le_of_ble_eq_true rfl⟩ ⟨show 100 + 10 * j + 0 ≤ 600000 by omega, show 3000 + 60 * j + 0 ≤ 7302249 by omega⟩ dL_law_1290 (fun r5 f1 H locs hp hz1 hS hfr => ?_)
  clear hIX
  refine hp.elim fun v6 h90 => h90.elim fun v7 h91 => h91.elim fun v8 h92 => h92.elim fun v9 h93 => h93.elim fun v10 h94 => h94.elim fun v11 h95 => h95.elim fun v12 h96 => h96.elim fun v13 h97 => h97.elim fun v14 h98 => h98.elim fun v15 h99 => h99.elim fun v16 h910 => h910.elim fun v17 h911 => h911.elim fun v18 h912 => h912.elim fun v19 h913 => h913.elim fun v20 h914 => h914.elim fun v21 h915 => h915.elim fun v22 h916 => h916.elim fun v23 h917 => h917.elim fun v24 h918 => h918.elim fun v25 h919 => h919.elim fun v26 h920 => h920.elim fun v27 h921 => h921.elim fun v28 h922 => h922.elim fun v29 h923 => h923.elim fun v30 h924 => h924.elim fun v31 h925 => h925.elim fun v32 h926 => h926.elim fun v33 h927 => h927.elim fun v34 h928 => h928.elim fun v35 h929 => h929.elim fun v36 h930 => h930.elim fun v37 h931 => h931.elim fun v38 h932 => h932.elim fun v39 h933 => h933.elim fun v40 h934 => ?_
  clear hp h90 h91 h92 h93 h94 h95 h96 h97 h98 h99 h910 h911 h912 h913 h914 h915 h916 h917 h918 h919 h920 h921 h922 h923 h924 h925 h926 h927 h928 h929 h930 h931 h932 h933
  obtain ⟨e41, e42, e43, e44, e45, e46, e47, e48, e49, e50, e51, e52, e53, e54, e55, e56, e57, e58, e59, e60, e61, e62, hIX⟩ := h934
  obtain ⟨hzm, hd⟩ := hfr fM hzm hd
  have hzx := hz1
  clear hz1 hfr
  obtain ⟨fX, hfx9⟩ : ∃ g : zM, g = f1 := ⟨_, rfl⟩
  rw [← hfx9] at hIX hd hzx
  clear hfx9
  refine lv_pop hx hb dL_law_1293 rfl ?_
  refine lv_aload_n hx hb dL_law_1294 rfl (lv_at hl 2 rfl) ?_
  refine lv_aload_n hx hb dL_law_1295 rfl (lv_at hl 0 rfl) ?_
  refine lv_iload_n hx hb dL_law_1296 rfl (lv_at hl 3 rfl) ?_
  refine lv_iconst (v := 1) hx hb dL_law_1297 (by decide) ?_
  refine lv_iadd hx hb dL_law_1298 ?_
  refine lv_topi (fun y63 e64 => ?_)
  obtain rfl : y63 = nI (5 * j + 1) := e64.trans (nI_add (5 * j) 1)
  refine z_sld (5 * j + 1) hx hb hXs hbl hbA hS rfl (by omega) (by omega) dL_law_1299 ?_
  refine lv_aload_n hx hb dL_law_1300 rfl (lv_at hl 0 rfl) ?_
  refine lv_iload_n hx hb dL_law_1301 rfl (lv_at hl 3 rfl) ?_
  refine lv_iconst (v := 2) hx hb dL_law_1302 (by decide) ?_
  refine lv_iadd hx hb dL_law_1303 ?_
  refine lv_topi (fun y65 e66 => ?_)
  obtain rfl : y65 = nI (5 * j + 2) := e66.trans (nI_add (5 * j) 2)
  refine z_sld (5 * j + 2) hx hb hXs hbl hbA hS rfl (by omega) (by omega) dL_law_1304 ?_
  refine z_callVi2 (As := [.int (xs (5 * j + 1)), .int (xs (5 * j + 2))]) C hzm hS hA hl (k_X8_put l D cy fM mo m_wev m_wnb m_wki m_wmy m_wce m_wiw m_wli m_wha m_wwt m_wfy m_wfk m_wem m_wna m_wpl m_whs m_wk1 m_wk2 m_wk3 m_u1 m_u2 m_u3 m_nl m_nn m_nf m_nc m_lk m_ks m_gv m_gu m_gk m_gm m_gc m_gw m_gl m_gh m_gt m_gy m_gq m_ge1 m_gn1 m_gp1 m_gs m_gx1 m_gx2 m_gx3 m_ln m_fz m_sq (xs (5 * j + 1)) (xs (5 * j + 2))  hIM) zyX8_put mML_151 hIM.1 zl8 rfl rfl (Nat.le_of_ble_eq_true rfl) ⟨Nat.le_of_ble_eq_true rfl, Nat.le_of_ble_eq_true rfl⟩ ⟨show 100 + 10 * j + 0 + 0 ≤ 600000 by omega, show 3000 + 60 * j + 0 + 0 ≤ 7302249 by omega⟩ dL_law_1305 (fun r67 f1 H locs hp hz1 hS hfr => ?_)
  clear hIM
  refine hp.elim fun w68 h90 => h90.elim fun w69 h91 => h91.elim fun w70 h92 => h92.elim fun w71 h93 => h93.elim fun w72 h94 => h94.elim fun w73 h95 => h95.elim fun w74 h96 => h96.elim fun w75 h97 => h97.elim fun w76 h98 => h98.elim fun w77 h99 => h99.elim fun w78 h910 => h910.elim fun w79 h911 => h911.elim fun w80 h912 => h912.elim fun w81 h913 => h913.elim fun w82 h914 => h914.elim fun w83 h915 => h915.elim fun w84 h916 => h916.elim fun w85 h917 => h917.elim fun w86 h918 => h918.elim fun w87 h919 => h919.elim fun w88 h920 => h920.elim fun w89 h921 => h921.elim fun w90 h922 => h922.elim fun w91 h923 => h923.elim fun w92 h924 => h924.elim fun w93 h925 => h925.elim fun w94 h926 => h926.elim fun w95 h927 => h927.elim fun w96 h928 => h928.elim fun w97 h929 => ?_
  clear hp h90 h91 h92 h93 h94 h95 h96 h97 h98 h99 h910 h911 h912 h913 h914 h915 h916 h917 h918 h919 h920 h921 h922 h923 h924 h925 h926 h927 h928
  obtain ⟨e98, e99, e100, e101, e102, e103, e104, e105, e106, e107, e108, e109, e110, e111, e112, e113, e114, e115, e116, e117, e118, e119, hIM⟩ := h929
  obtain ⟨hzx, hd⟩ := hfr fX hzx (z_dsym hd)
  replace hd := z_dsym hd
  have hzm := hz1
  clear hz1 hfr
  obtain ⟨fM, hfm9⟩ : ∃ g : zM, g = f1 := ⟨_, rfl⟩
  rw [← hfm9] at hIM hd hzm
  clear hfm9
  obtain ⟨hr9, hks9, hkv9, hKR8⟩ := law_put hRE hc60 hs40 hKR e62 e119
  subst hr9
  refine lv_pop hx hb dL_law_1308 rfl ?_
  refine lv_goto (tgt := 1358) hx hb dL_law_1309 (by decide) ?_
  refine W.widen (k := 100 + 10 * (j + 1)) (n := 3000 + 60 * (j + 1)) (show 100 + 10 * j + 0 + 0 ≤ 100 + 10 * (j + 1) by omega) (show 3000 + 60 * j + 0 + 0 ≤ 3000 + 60 * (j + 1) by omega) ?_
  have hPC9 : zPC v12 v18 v19 w81 := by rw [e47, e49, e50, e109]; exact hPC
  have hFF9 : zFF v24 v28 v29 w87 := by rw [e53, e54, e55, e112]; exact hFF
  have hRE9 : zRE v30 v33 v34 v35 v36 w90 := by rw [e56, e57, e58, e59, e60, e116]; exact hRE
  exact fin _ _ _ (z_LI hIX hIM hzx hzm hd ⟨(e98.trans e41.symm), (e99.trans e42.symm), (e100.trans e43.symm), (e101.trans e44.symm), (e102.trans e45.symm), (e103.trans e46.symm), (e104.trans e47.symm), (e105.trans e48.symm), (e107.trans e51.symm), (e106.trans e49.symm), (e108.trans e52.symm), (e110.trans e53.symm), (e111.trans e54.symm), (e113.trans e56.symm), (e114.trans e57.symm), (e115.trans e58.symm), (e117.trans e59.symm), (e118.trans e61.symm), hks9, hkv9, hPC9, hFF9, hRE9, hKR8⟩) hS (lv_sub hl [0, 1, 2, 3] rfl)
set_option maxHeartbeats 4000000 in
set_option maxRecDepth 100000 in
theorem law_case_32 {p : Program} {l : Launch} {e : Env} {s : State} {m : MethodId} {below : List Frame} {meth : Method} {c : Code} {D : va_G} {cy : Nat → ClassId} {b L : Nat} {xs : Nat → Int32} {o mo j : Nat} (C : zC D cy p s m #[Value.ref b] meth c RL cL_law 4) (hXs : va_X b L xs s s.heap) (hbl : b < s.heap.size) (hbA : ¬ zLA s b) (hL : L ≤ 2560) (hj : 5 * j + 5 ≤ L) (fin : ∀ (H : Heap) (locs : List Loc) (ls : Array Slot), zLI D cy s o mo H → va_S (zLA s) s.heap H locs → lv_has ls 4 [(0, .ref b), (1, .ref o), (2, .ref mo), (3, .int (nI (5 * j)))] → W p l e room_1 s m #[Value.ref b] below meth c H locs (100 + 10 * (j + 1)) (3000 + 60 * (j + 1)) (lw_Z below #[Value.ref b] s) (F0 m 1358 ls [])) {H : Heap} {locs : List Loc} {ls : Array Slot} (hLI : zLI D cy s o mo H) (hS : va_S (zLA s) s.heap H locs) (hl : lv_has ls 4 [(0, .ref b), (1, .ref o), (2, .ref mo), (3, .int (nI (5 * j)))]) : W p l e room_1 s m #[Value.ref b] below meth c H locs (100 + 10 * j) (3000 + 60 * j) (lw_Z below #[Value.ref b] s) (F0 m 1312 ls []) := by
  have hx := C.1
  have hb := C.2.1
  have hA : ∀ q, s.heap.size ≤ q → zLA s q := fun q h => h
  refine Exists.elim hLI fun fX h90 => h90.elim fun fM h91 => h91.elim fun fa h92 => h92.elim fun fi h93 => h93.elim fun nu h94 => h94.elim fun fm h95 => h95.elim fun co h96 => h96.elim fun en h97 => h97.elim fun ke h98 => h98.elim fun ev h99 => h99.elim fun al h910 => h910.elim fun ra h911 => h911.elim fun kn h912 => h912.elim fun vq h913 => h913.elim fun ge h914 => h914.elim fun ea h915 => h915.elim fun ma h916 => h916.elim fun u1 h917 => h917.elim fun u2 h918 => h918.elim fun u3 h919 => h919.elim fun gv h920 => h920.elim fun nl h921 => h921.elim fun gu h922 => h922.elim fun nn h923 => h923.elim fun ga h924 => h924.elim fun gr h925 => h925.elim fun fg h926 => h926.elim fun pt h927 => h927.elim fun kd h928 => h928.elim fun ln h929 => h929.elim fun pp h930 => h930.elim fun wg h931 => h931.elim fun wd h932 => h932.elim fun hs h933 => h933.elim fun bf h934 => h934.elim fun nf h935 => h935.elim fun gf h936 => h936.elim fun fq h937 => h937.elim fun fk h938 => h938.elim fun fz h939 => h939.elim fun fc h940 => h940.elim fun nc h941 => h941.elim fun gc h942 => h942.elim fun cn h943 => h943.elim fun ce h944 => h944.elim fun cm h945 => h945.elim fun sq h946 => h946.elim fun mb h947 => h947.elim fun ks h948 => h948.elim fun kk h949 => h949.elim fun kv h950 => h950.elim fun lk h951 => h951.elim fun m_wev h952 => h952.elim fun m_wnb h953 => h953.elim fun m_wki h954 => h954.elim fun m_wmy h955 => h955.elim fun m_wce h956 => h956.elim fun m_wiw h957 => h957.elim fun m_wli h958 => h958.elim fun m_wha h959 => h959.elim fun m_wwt h960 => h960.elim fun m_wfy h961 => h961.elim fun m_wfk h962 => h962.elim fun m_wem h963 => h963.elim fun m_wna h964 => h964.elim fun m_wpl h965 => h965.elim fun m_whs h966 => h966.elim fun m_wk1 h967 => h967.elim fun m_wk2 h968 => h968.elim fun m_wk3 h969 => h969.elim fun m_u1 h970 => h970.elim fun m_u2 h971 => h971.elim fun m_u3 h972 => h972.elim fun m_nl h973 => h973.elim fun m_nn h974 => h974.elim fun m_nf h975 => h975.elim fun m_nc h976 => h976.elim fun m_lk h977 => h977.elim fun m_ks h978 => h978.elim fun m_gv h979 => h979.elim fun m_gu h980 => h980.elim fun m_gk h981 => h981.elim fun m_gm h982 => h982.elim fun m_gc h983 => h983.elim fun m_gw h984 => h984.elim fun m_gl h985 => h985.elim fun m_gh h986 => h986.elim fun m_gt h987 => h987.elim fun m_gy h988 => h988.elim fun m_gq h989 => h989.elim fun m_ge1 h990 => h990.elim fun m_gn1 h991 => h991.elim fun m_gp1 h992 => h992.elim fun m_gs h993 => h993.elim fun m_gx1 h994 => h994.elim fun m_gx2 h995 => h995.elim fun m_gx3 h996 => h996.elim fun m_ln h997 => h997.elim fun m_fz h998 => h998.elim fun m_sq h999 => ?_
  clear hLI h90 h91 h92 h93 h94 h95 h96 h97 h98 h99 h910 h911 h912 h913 h914 h915 h916 h917 h918 h919 h920 h921 h922 h923 h924 h925 h926 h927 h928 h929 h930 h931 h932 h933 h934 h935 h936 h937 h938 h939 h940 h941 h942 h943 h944 h945 h946 h947 h948 h949 h950 h951 h952 h953 h954 h955 h956 h957 h958 h959 h960 h961 h962 h963 h964 h965 h966 h967 h968 h969 h970 h971 h972 h973 h974 h975 h976 h977 h978 h979 h980 h981 h982 h983 h984 h985 h986 h987 h988 h989 h990 h991 h992 h993 h994 h995 h996 h997 h998
  obtain ⟨hIX, hIM, hzx, hzm, hd, rfl, rfl, rfl, rfl, rfl, rfl, rfl, rfl, rfl, rfl, rfl, rfl, rfl, rfl, rfl, rfl, rfl, rfl, rfl, rfl, hPC, hFF, hRE, hKR⟩ := h999
  have hl15 := zIM_ln hIM
  have hfz4 := zIM_fz hIM
  have hn60 := zIM_n60 hIM
  have hf60 := zIM_f60 hIM
  have hc60 := zIM_c60 hIM
  have hs40 := zIM_s40 hIM
  refine lv_aload_n hx hb dL_law_1312 rfl (lv_at hl 1 rfl) ?_
  refine lv_aload_n hx hb dL_law_1313 rfl (lv_at hl 0 rfl) ?_
  refine lv_iload_n hx hb dL_law_1314 rfl (lv_at hl 3 rfl) ?_
  refine lv_iconst (v := 1) hx hb dL_law_1315 (by decide) ?_
  refine lv_iadd hx hb dL_law_1316 ?_
  refine lv_topi (fun y1 e2 => ?_)
  obtain rfl : y1 = nI (5 * j + 1) := e2.trans (nI_add (5 * j) 1)
  refine z_sld (5 * j + 1) hx hb hXs hbl hbA hS rfl (by omega) (by omega) dL_law_1317 ?_
  refine z_callVi2 (As := [.int (xs (5 * j + 1))]) C hzx hS hA hl (k_X7_get l D cy fX o fa fi nu fm co en ke ev al ra kn vq ge ea ma m_u1 m_u2 m_u3 m_gv m_nl m_gu m_nn ga gr fg pt m_gk m_ln pp wg m_gw m_gh bf m_nf gf fq fk m_fz fc m_nc gc cn m_ge1 m_gn1 m_sq mb m_ks kk m_gx3 m_lk (xs (5 * j + 1))  hIX) zyX7_get mML_152 hIX.1 zl7 rfl rfl (Nat.le_of_ble_eq_true rfl) ⟨Nat.le_of_ble_eq_true rfl, Nat.le_of_ble_eq_true rfl⟩ ⟨show 100 + 10 * j + 0 ≤ 600000 by omega, show 3000 + 60 * j + 0 ≤ 7302249 by omega⟩ dL_law_1318 (fun r3 f1 H locs hp hz1 hS hfr => ?_)
  clear hIX
  refine hp.elim fun v4 h90 => h90.elim fun v5 h91 => h91.elim fun v6 h92 => h92.elim fun v7 h93 => h93.elim fun v8 h94 => h94.elim fun v9 h95 => h95.elim fun v10 h96 => h96.elim fun v11 h97 => h97.elim fun v12 h98 => h98.elim fun v13 h99 => h99.elim fun v14 h910 => h910.elim fun v15 h911 => h911.elim fun v16 h912 => h912.elim fun v17 h913 => h913.elim fun v18 h914 => h914.elim fun v19 h915 => h915.elim fun v20 h916 => h916.elim fun v21 h917 => h917.elim fun v22 h918 => h918.elim fun v23 h919 => h919.elim fun v24 h920 => h920.elim fun v25 h921 => h921.elim fun v26 h922 => h922.elim fun v27 h923 => h923.elim fun v28 h924 => h924.elim fun v29 h925 => h925.elim fun v30 h926 => h926.elim fun v31 h927 => h927.elim fun v32 h928 => h928.elim fun v33 h929 => h929.elim fun v34 h930 => h930.elim fun v35 h931 => h931.elim fun v36 h932 => h932.elim fun v37 h933 => h933.elim fun v38 h934 => ?_
  clear hp h90 h91 h92 h93 h94 h95 h96 h97 h98 h99 h910 h911 h912 h913 h914 h915 h916 h917 h918 h919 h920 h921 h922 h923 h924 h925 h926 h927 h928 h929 h930 h931 h932 h933
  obtain ⟨e39, e40, e41, e42, e43, e44, e45, e46, e47, e48, e49, e50, e51, e52, e53, e54, e55, e56, e57, e58, e59, e60, e61, e62, e63, hIX⟩ := h934
  obtain ⟨hzm, hd⟩ := hfr fM hzm hd
  have hzx := hz1
  clear hz1 hfr
  obtain ⟨fX, hfx9⟩ : ∃ g : zM, g = f1 := ⟨_, rfl⟩
  rw [← hfx9] at hIX hd hzx
  clear hfx9
  refine lv_pop hx hb dL_law_1321 rfl ?_
  refine lv_aload_n hx hb dL_law_1322 rfl (lv_at hl 2 rfl) ?_
  refine lv_aload_n hx hb dL_law_1323 rfl (lv_at hl 0 rfl) ?_
  refine lv_iload_n hx hb dL_law_1324 rfl (lv_at hl 3 rfl) ?_
  refine lv_iconst (v := 1) hx hb dL_law_1325 (by decide) ?_
  refine lv_iadd hx hb dL_law_1326 ?_
  refine lv_topi (fun y64 e65 => ?_)
  obtain rfl : y64 = nI (5 * j + 1) := e65.trans (nI_add (5 * j) 1)
  refine z_sld (5 * j + 1) hx hb hXs hbl hbA hS rfl (by omega) (by omega) dL_law_1327 ?_
  refine z_callVi2 (As := [.int (xs (5 * j + 1))]) C hzm hS hA hl (k_X8_get l D cy fM mo m_wev m_wnb m_wki m_wmy m_wce m_wiw m_wli m_wha m_wwt m_wfy m_wfk m_wem m_wna m_wpl m_whs m_wk1 m_wk2 m_wk3 m_u1 m_u2 m_u3 m_nl m_nn m_nf m_nc m_lk m_ks m_gv m_gu m_gk m_gm m_gc m_gw m_gl m_gh m_gt m_gy m_gq m_ge1 m_gn1 m_gp1 m_gs m_gx1 m_gx2 m_gx3 m_ln m_fz m_sq (xs (5 * j + 1))  hIM) zyX8_get mML_155 hIM.1 zl8 rfl rfl (Nat.le_of_ble_eq_true rfl) ⟨Nat.le_of_ble_eq_true rfl, Nat.le_of_ble_eq_true rfl⟩ ⟨show 100 + 10 * j + 0 + 0 ≤ 600000 by omega, show 3000 + 60 * j + 0 + 0 ≤ 7302249 by omega⟩ dL_law_1328 (fun r66 f1 H locs hp hz1 hS hfr => ?_)
  clear hIM
  refine hp.elim fun w67 h90 => h90.elim fun w68 h91 => h91.elim fun w69 h92 => h92.elim fun w70 h93 => h93.elim fun w71 h94 => h94.elim fun w72 h95 => h95.elim fun w73 h96 => h96.elim fun w74 h97 => h97.elim fun w75 h98 => h98.elim fun w76 h99 => h99.elim fun w77 h910 => h910.elim fun w78 h911 => h911.elim fun w79 h912 => h912.elim fun w80 h913 => h913.elim fun w81 h914 => h914.elim fun w82 h915 => h915.elim fun w83 h916 => h916.elim fun w84 h917 => h917.elim fun w85 h918 => h918.elim fun w86 h919 => h919.elim fun w87 h920 => h920.elim fun w88 h921 => h921.elim fun w89 h922 => h922.elim fun w90 h923 => h923.elim fun w91 h924 => h924.elim fun w92 h925 => h925.elim fun w93 h926 => h926.elim fun w94 h927 => h927.elim fun w95 h928 => h928.elim fun w96 h929 => ?_
  clear hp h90 h91 h92 h93 h94 h95 h96 h97 h98 h99 h910 h911 h912 h913 h914 h915 h916 h917 h918 h919 h920 h921 h922 h923 h924 h925 h926 h927 h928
  obtain ⟨e97, e98, e99, e100, e101, e102, e103, e104, e105, e106, e107, e108, e109, e110, e111, e112, e113, e114, e115, e116, e117, e118, e119, e120, e121, e122, hIM⟩ := h929
  obtain ⟨hzx, hd⟩ := hfr fX hzx (z_dsym hd)
  replace hd := z_dsym hd
  have hzm := hz1
  clear hz1 hfr
  obtain ⟨fM, hfm9⟩ : ∃ g : zM, g = f1 := ⟨_, rfl⟩
  rw [← hfm9] at hIM hd hzm
  clear hfm9
  have hr9 := law_get hRE hc60 hKR e63 e122
  subst hr9
  refine lv_pop hx hb dL_law_1331 rfl ?_
  refine lv_goto (tgt := 1358) hx hb dL_law_1332 (by decide) ?_
  refine W.widen (k := 100 + 10 * (j + 1)) (n := 3000 + 60 * (j + 1)) (show 100 + 10 * j + 0 + 0 ≤ 100 + 10 * (j + 1) by omega) (show 3000 + 60 * j + 0 + 0 ≤ 3000 + 60 * (j + 1) by omega) ?_
  have hPC9 : zPC v10 v16 v17 w80 := by rw [e45, e47, e48, e108]; exact hPC
  have hFF9 : zFF v22 v26 v27 w86 := by rw [e51, e52, e53, e111]; exact hFF
  have hRE9 : zRE v28 v31 v32 v33 v34 w89 := by rw [e54, e55, e56, e57, e58, e115]; exact hRE
  have hKR8 : zKR v35 v36 w91 w92 := by rw [e59, e60, e118, e119]; exact hKR
  exact fin _ _ _ (z_LI hIX hIM hzx hzm hd ⟨(e97.trans e39.symm), (e98.trans e40.symm), (e99.trans e41.symm), (e100.trans e42.symm), (e101.trans e43.symm), (e102.trans e44.symm), (e103.trans e45.symm), (e104.trans e46.symm), (e106.trans e49.symm), (e105.trans e47.symm), (e107.trans e50.symm), (e109.trans e51.symm), (e110.trans e52.symm), (e112.trans e54.symm), (e113.trans e55.symm), (e114.trans e56.symm), (e116.trans e57.symm), (e121.trans e62.symm), (e117.trans e59.symm), (e120.trans e61.symm), hPC9, hFF9, hRE9, hKR8⟩) hS (lv_sub hl [0, 1, 2, 3] rfl)
set_option maxHeartbeats 4000000 in
set_option maxRecDepth 100000 in
theorem law_case_33 {p : Program} {l : Launch} {e : Env} {s : State} {m : MethodId} {below : List Frame} {meth : Method} {c : Code} {D : va_G} {cy : Nat → ClassId} {b L : Nat} {xs : Nat → Int32} {o mo j : Nat} (C : zC D cy p s m #[Value.ref b] meth c RL cL_law 4) (hXs : va_X b L xs s s.heap) (hbl : b < s.heap.size) (hbA : ¬ zLA s b) (hL : L ≤ 2560) (hj : 5 * j + 5 ≤ L) (fin : ∀ (H : Heap) (locs : List Loc) (ls : Array Slot), zLI D cy s o mo H → va_S (zLA s) s.heap H locs → lv_has ls 4 [(0, .ref b), (1, .ref o), (2, .ref mo), (3, .int (nI (5 * j)))] → W p l e room_1 s m #[Value.ref b] below meth c H locs (100 + 10 * (j + 1)) (3000 + 60 * (j + 1)) (lw_Z below #[Value.ref b] s) (F0 m 1358 ls [])) {H : Heap} {locs : List Loc} {ls : Array Slot} (hLI : zLI D cy s o mo H) (hS : va_S (zLA s) s.heap H locs) (hl : lv_has ls 4 [(0, .ref b), (1, .ref o), (2, .ref mo), (3, .int (nI (5 * j)))]) : W p l e room_1 s m #[Value.ref b] below meth c H locs (100 + 10 * j) (3000 + 60 * j) (lw_Z below #[Value.ref b] s) (F0 m 1335 ls []) := by
  have hx := C.1
  have hb := C.2.1
  have hA : ∀ q, s.heap.size ≤ q → zLA s q := fun q h => h
  refine Exists.elim hLI fun fX h90 => h90.elim fun fM h91 => h91.elim fun fa h92 => h92.elim fun fi h93 => h93.elim fun nu h94 => h94.elim fun fm h95 => h95.elim fun co h96 => h96.elim fun en h97 => h97.elim fun ke h98 => h98.elim fun ev h99 => h99.elim fun al h910 => h910.elim fun ra h911 => h911.elim fun kn h912 => h912.elim fun vq h913 => h913.elim fun ge h914 => h914.elim fun ea h915 => h915.elim fun ma h916 => h916.elim fun u1 h917 => h917.elim fun u2 h918 => h918.elim fun u3 h919 => h919.elim fun gv h920 => h920.elim fun nl h921 => h921.elim fun gu h922 => h922.elim fun nn h923 => h923.elim fun ga h924 => h924.elim fun gr h925 => h925.elim fun fg h926 => h926.elim fun pt h927 => h927.elim fun kd h928 => h928.elim fun ln h929 => h929.elim fun pp h930 => h930.elim fun wg h931 => h931.elim fun wd h932 => h932.elim fun hs h933 => h933.elim fun bf h934 => h934.elim fun nf h935 => h935.elim fun gf h936 => h936.elim fun fq h937 => h937.elim fun fk h938 => h938.elim fun fz h939 => h939.elim fun fc h940 => h940.elim fun nc h941 => h941.elim fun gc h942 => h942.elim fun cn h943 => h943.elim fun ce h944 => h944.elim fun cm h945 => h945.elim fun sq h946 => h946.elim fun mb h947 => h947.elim fun ks h948 => h948.elim fun kk h949 => h949.elim fun kv h950 => h950.elim fun lk h951 => h951.elim fun m_wev h952 => h952.elim fun m_wnb h953 => h953.elim fun m_wki h954 => h954.elim fun m_wmy h955 => h955.elim fun m_wce h956 => h956.elim fun m_wiw h957 => h957.elim fun m_wli h958 => h958.elim fun m_wha h959 => h959.elim fun m_wwt h960 => h960.elim fun m_wfy h961 => h961.elim fun m_wfk h962 => h962.elim fun m_wem h963 => h963.elim fun m_wna h964 => h964.elim fun m_wpl h965 => h965.elim fun m_whs h966 => h966.elim fun m_wk1 h967 => h967.elim fun m_wk2 h968 => h968.elim fun m_wk3 h969 => h969.elim fun m_u1 h970 => h970.elim fun m_u2 h971 => h971.elim fun m_u3 h972 => h972.elim fun m_nl h973 => h973.elim fun m_nn h974 => h974.elim fun m_nf h975 => h975.elim fun m_nc h976 => h976.elim fun m_lk h977 => h977.elim fun m_ks h978 => h978.elim fun m_gv h979 => h979.elim fun m_gu h980 => h980.elim fun m_gk h981 => h981.elim fun m_gm h982 => h982.elim fun m_gc h983 => h983.elim fun m_gw h984 => h984.elim fun m_gl h985 => h985.elim fun m_gh h986 => h986.elim fun m_gt h987 => h987.elim fun m_gy h988 => h988.elim fun m_gq h989 => h989.elim fun m_ge1 h990 => h990.elim fun m_gn1 h991 => h991.elim fun m_gp1 h992 => h992.elim fun m_gs h993 => h993.elim fun m_gx1 h994 => h994.elim fun m_gx2 h995 => h995.elim fun m_gx3 h996 => h996.elim fun m_ln h997 => h997.elim fun m_fz h998 => h998.elim fun m_sq h999 => ?_
  clear hLI h90 h91 h92 h93 h94 h95 h96 h97 h98 h99 h910 h911 h912 h913 h914 h915 h916 h917 h918 h919 h920 h921 h922 h923 h924 h925 h926 h927 h928 h929 h930 h931 h932 h933 h934 h935 h936 h937 h938 h939 h940 h941 h942 h943 h944 h945 h946 h947 h948 h949 h950 h951 h952 h953 h954 h955 h956 h957 h958 h959 h960 h961 h962 h963 h964 h965 h966 h967 h968 h969 h970 h971 h972 h973 h974 h975 h976 h977 h978 h979 h980 h981 h982 h983 h984 h985 h986 h987 h988 h989 h990 h991 h992 h993 h994 h995 h996 h997 h998
  obtain ⟨hIX, hIM, hzx, hzm, hd, rfl, rfl, rfl, rfl, rfl, rfl, rfl, rfl, rfl, rfl, rfl, rfl, rfl, rfl, rfl, rfl, rfl, rfl, rfl, rfl, hPC, hFF, hRE, hKR⟩ := h999
  have hl15 := zIM_ln hIM
  have hfz4 := zIM_fz hIM
  have hn60 := zIM_n60 hIM
  have hf60 := zIM_f60 hIM
  have hc60 := zIM_c60 hIM
  have hs40 := zIM_s40 hIM
  refine lv_aload_n hx hb dL_law_1335 rfl (lv_at hl 1 rfl) ?_
  refine lv_aload_n hx hb dL_law_1336 rfl (lv_at hl 0 rfl) ?_
  refine lv_iload_n hx hb dL_law_1337 rfl (lv_at hl 3 rfl) ?_
  refine lv_iconst (v := 1) hx hb dL_law_1338 (by decide) ?_
  refine lv_iadd hx hb dL_law_1339 ?_
  refine lv_topi (fun y1 e2 => ?_)
  obtain rfl : y1 = nI (5 * j + 1) := e2.trans (nI_add (5 * j) 1)
  refine z_sld (5 * j + 1) hx hb hXs hbl hbA hS rfl (by omega) (by omega) dL_law_1340 ?_
  refine z_callVi2 (As := [.int (xs (5 * j + 1))]) C hzx hS hA hl (k_X7_count l D cy fX o fa fi nu fm co en ke ev al ra kn vq ge ea ma m_u1 m_u2 m_u3 m_gv m_nl m_gu m_nn ga gr fg pt m_gk m_ln pp wg m_gw m_gh bf m_nf gf fq fk m_fz fc m_nc gc cn m_ge1 m_gn1 m_sq mb m_ks kk m_gx3 m_lk (xs (5 * j + 1))  hIX) zyX7_count mML_156 hIX.1 zl7 rfl rfl (Nat.le_of_ble_eq_true rfl) ⟨Nat.le_of_ble_eq_true rfl, Nat.le_of_ble_eq_true rfl⟩ ⟨show 100 + 10 * j + 0 ≤ 600000 by omega, show 3000 + 60 * j + 0 ≤ 7302249 by omega⟩ dL_law_1341 (fun r f1 H locs hp hz1 hS hfr => ?_)
  clear hIX
  refine hp.elim fun v3 h90 => h90.elim fun v4 h91 => h91.elim fun v5 h92 => h92.elim fun v6 h93 => h93.elim fun v7 h94 => h94.elim fun v8 h95 => h95.elim fun v9 h96 => h96.elim fun v10 h97 => h97.elim fun v11 h98 => h98.elim fun v12 h99 => h99.elim fun v13 h910 => h910.elim fun v14 h911 => h911.elim fun v15 h912 => h912.elim fun v16 h913 => h913.elim fun v17 h914 => h914.elim fun v18 h915 => h915.elim fun v19 h916 => h916.elim fun v20 h917 => h917.elim fun v21 h918 => h918.elim fun v22 h919 => h919.elim fun v23 h920 => h920.elim fun v24 h921 => h921.elim fun v25 h922 => h922.elim fun v26 h923 => h923.elim fun v27 h924 => h924.elim fun v28 h925 => h925.elim fun v29 h926 => h926.elim fun v30 h927 => h927.elim fun v31 h928 => h928.elim fun v32 h929 => h929.elim fun v33 h930 => h930.elim fun v34 h931 => h931.elim fun v35 h932 => h932.elim fun v36 h933 => h933.elim fun v37 h934 => ?_
  clear hp h90 h91 h92 h93 h94 h95 h96 h97 h98 h99 h910 h911 h912 h913 h914 h915 h916 h917 h918 h919 h920 h921 h922 h923 h924 h925 h926 h927 h928 h929 h930 h931 h932 h933
  obtain ⟨rfl, e38, e39, e40, e41, e42, e43, e44, e45, e46, e47, e48, e49, e50, e51, e52, e53, e54, e55, e56, e57, e58, e59, e60, e61, hIX⟩ := h934
  obtain ⟨hzm, hd⟩ := hfr fM hzm hd
  have hzx := hz1
  clear hz1 hfr
  obtain ⟨fX, hfx9⟩ : ∃ g : zM, g = f1 := ⟨_, rfl⟩
  rw [← hfx9] at hIX hd hzx
  clear hfx9
  refine lv_pop hx hb dL_law_1344 rfl ?_
  refine lv_aload_n hx hb dL_law_1345 rfl (lv_at hl 2 rfl) ?_
  refine lv_aload_n hx hb dL_law_1346 rfl (lv_at hl 0 rfl) ?_
  refine lv_iload_n hx hb dL_law_1347 rfl (lv_at hl 3 rfl) ?_
  refine lv_iconst (v := 1) hx hb dL_law_1348 (by decide) ?_
  refine lv_iadd hx hb dL_law_1349 ?_
  refine lv_topi (fun y62 e63 => ?_)
  obtain rfl : y62 = nI (5 * j + 1) := e63.trans (nI_add (5 * j) 1)
  refine z_sld (5 * j + 1) hx hb hXs hbl hbA hS rfl (by omega) (by omega) dL_law_1350 ?_
  refine z_callVi2 (As := [.int (xs (5 * j + 1))]) C hzm hS hA hl (k_X8_count l D cy fM mo m_wev m_wnb m_wki m_wmy m_wce m_wiw m_wli m_wha m_wwt m_wfy m_wfk m_wem m_wna m_wpl m_whs m_wk1 m_wk2 m_wk3 m_u1 m_u2 m_u3 m_nl m_nn m_nf m_nc m_lk m_ks m_gv m_gu m_gk m_gm m_gc m_gw m_gl m_gh m_gt m_gy m_gq m_ge1 m_gn1 m_gp1 m_gs m_gx1 m_gx2 m_gx3 m_ln m_fz m_sq (xs (5 * j + 1))  hIM) zyX8_count mML_159 hIM.1 zl8 rfl rfl (Nat.le_of_ble_eq_true rfl) ⟨Nat.le_of_ble_eq_true rfl, Nat.le_of_ble_eq_true rfl⟩ ⟨show 100 + 10 * j + 0 + 0 ≤ 600000 by omega, show 3000 + 60 * j + 0 + 0 ≤ 7302249 by omega⟩ dL_law_1351 (fun r f1 H locs hp hz1 hS hfr => ?_)
  clear hIM
  refine hp.elim fun w64 h90 => h90.elim fun w65 h91 => h91.elim fun w66 h92 => h92.elim fun w67 h93 => h93.elim fun w68 h94 => h94.elim fun w69 h95 => h95.elim fun w70 h96 => h96.elim fun w71 h97 => h97.elim fun w72 h98 => h98.elim fun w73 h99 => h99.elim fun w74 h910 => h910.elim fun w75 h911 => h911.elim fun w76 h912 => h912.elim fun w77 h913 => h913.elim fun w78 h914 => h914.elim fun w79 h915 => h915.elim fun w80 h916 => h916.elim fun w81 h917 => h917.elim fun w82 h918 => h918.elim fun w83 h919 => h919.elim fun w84 h920 => h920.elim fun w85 h921 => h921.elim fun w86 h922 => h922.elim fun w87 h923 => h923.elim fun w88 h924 => h924.elim fun w89 h925 => h925.elim fun w90 h926 => h926.elim fun w91 h927 => h927.elim fun w92 h928 => h928.elim fun w93 h929 => ?_
  clear hp h90 h91 h92 h93 h94 h95 h96 h97 h98 h99 h910 h911 h912 h913 h914 h915 h916 h917 h918 h919 h920 h921 h922 h923 h924 h925 h926 h927 h928
  obtain ⟨rfl, e94, e95, e96, e97, e98, e99, e100, e101, e102, e103, e104, e105, e106, e107, e108, e109, e110, e111, e112, e113, e114, e115, e116, e117, e118, hIM⟩ := h929
  obtain ⟨hzx, hd⟩ := hfr fX hzx (z_dsym hd)
  replace hd := z_dsym hd
  have hzm := hz1
  clear hz1 hfr
  obtain ⟨fM, hfm9⟩ : ∃ g : zM, g = f1 := ⟨_, rfl⟩
  rw [← hfm9] at hIM hd hzm
  clear hfm9
  refine lv_pop hx hb dL_law_1354 rfl ?_
  refine lv_goto (tgt := 1358) hx hb dL_law_1355 (by decide) ?_
  refine W.widen (k := 100 + 10 * (j + 1)) (n := 3000 + 60 * (j + 1)) (show 100 + 10 * j + 0 + 0 ≤ 100 + 10 * (j + 1) by omega) (show 3000 + 60 * j + 0 + 0 ≤ 3000 + 60 * (j + 1) by omega) ?_
  have hPC9 : zPC v9 v15 v16 w77 := by rw [e44, e46, e47, e105]; exact hPC
  have hFF9 : zFF v21 v25 v26 w83 := by rw [e50, e51, e52, e108]; exact hFF
  have hRE9 : zRE v27 v30 v31 v32 v33 w86 := by rw [e53, e54, e55, e56, e57, e112]; exact hRE
  have hKR8 : zKR v34 v35 w88 w89 := by rw [e58, e59, e115, e116]; exact hKR
  exact fin _ _ _ (z_LI hIX hIM hzx hzm hd ⟨(e94.trans e38.symm), (e95.trans e39.symm), (e96.trans e40.symm), (e97.trans e41.symm), (e98.trans e42.symm), (e99.trans e43.symm), (e100.trans e44.symm), (e101.trans e45.symm), (e103.trans e48.symm), (e102.trans e46.symm), (e104.trans e49.symm), (e106.trans e50.symm), (e107.trans e51.symm), (e109.trans e53.symm), (e110.trans e54.symm), (e111.trans e55.symm), (e113.trans e56.symm), (e118.trans e61.symm), (e114.trans e58.symm), (e117.trans e60.symm), hPC9, hFF9, hRE9, hKR8⟩) hS (lv_sub hl [0, 1, 2, 3] rfl)
