theorem w_479 : Cond.constantLong RL 58 4294967295 ∈ WL := jwl 479 rfl rfl
theorem w_83 : Cond.methodLink RL 60 y_L_insert ∈ WL := jwl 83 rfl rfl
theorem w_84 : Cond.static y_L_insert ∈ WL := jwl 84 rfl rfl
theorem w_28 : Cond.initialized RL ∈ WL := jwl 28 rfl rfl
theorem w_85 : Cond.codeWith y_L_insert b_L_insert 7 (some .int) [(0, 12, 15, 13), (0, 12, 19, 15), (0, 12, 23, 17)] ∈ WL := jwl 85 rfl rfl
theorem w_383 : Cond.methodLink RL 65 y_M_insert ∈ WL := jwl 383 rfl rfl
theorem w_384 : Cond.instanceMethod y_M_insert ∈ WL := jwl 384 rfl rfl
theorem w_385 : Cond.selects RM y_M_insert y_M_insert ∈ WL := jwl 385 rfl rfl
theorem w_386 : Cond.code y_M_insert b_M_insert 5 (some .int) ∈ WL := jwl 386 rfl rfl
theorem w_379 : Cond.methodLink RL 66 y_M_thrown ∈ WL := jwl 379 rfl rfl
theorem w_380 : Cond.instanceMethod y_M_thrown ∈ WL := jwl 380 rfl rfl
theorem w_381 : Cond.selects RM y_M_thrown y_M_thrown ∈ WL := jwl 381 rfl rfl
theorem w_382 : Cond.code y_M_thrown b_M_thrown 1 (some .int) ∈ WL := jwl 382 rfl rfl
theorem w_243 : Cond.methodLink RL 70 y_L_delete ∈ WL := jwl 243 rfl rfl
theorem w_244 : Cond.static y_L_delete ∈ WL := jwl 244 rfl rfl
theorem w_245 : Cond.codeWith y_L_delete b_L_delete 5 (some .int) [(0, 10, 13, 13), (0, 10, 17, 15), (0, 10, 21, 17)] ∈ WL := jwl 245 rfl rfl
theorem w_419 : Cond.methodLink RL 73 y_M_delete ∈ WL := jwl 419 rfl rfl
theorem w_420 : Cond.instanceMethod y_M_delete ∈ WL := jwl 420 rfl rfl
theorem w_421 : Cond.selects RM y_M_delete y_M_delete ∈ WL := jwl 421 rfl rfl
theorem w_422 : Cond.code y_M_delete b_M_delete 3 (some .int) ∈ WL := jwl 422 rfl rfl
set_option maxHeartbeats 4000000 in
set_option maxRecDepth 100000 in
theorem lawc_insert {p : Program} {e : Env} {s : State} {m : MethodId} {below : List Frame} {meth : Method} {c : Code} (l : Launch) (D : va_G) (ad am : Nat → Nat) (ao : Nat) (cB cI cL : ClassId) {b LL : Nat} {xs : Nat → Int32} {Q : State → Prop} {A : Nat → Prop} (hl : l.stackTraces = false) (F : jw_F p s m #[Value.ref b] meth c D vCl (vTy cB cI cL) A 8 b_L_law RL (Cond.initialized RL :: WL) ret) (hZ : jz_Y A s) (hX : va_X b LL xs s s.heap) (hbl : b < s.heap.size) (hbA : ¬ A b) (hLL : LL ≤ 2560) (i nc ns : Nat) (hi : i + 5 ≤ LL) (hnc : nc + 1 ≤ 1051) (hns : ns + 6 ≤ 11457) (a : AS) (L : List Nat) (f0 f1 f2 f3 f4 f5 f6 f7 : Nat → Int32) (v : Nat → Int64) (md ln : Int32) (go gc gb gd gh gr gt gk : Nat → Int32) (gn : Nat → Int64) (er op sz : Int32) (o : Nat → Int64) (hQ : cx_R a L f0 f1 f2 f3 f4 f5 f6 f7 v md ln) (hQm : mx_R a go gc gb gd gh gn op) (kk : ∀ (a : AS) (L : List Nat) (f0 f1 f2 f3 f4 f5 f6 f7 : Nat → Int32) (v : Nat → Int64) (md ln : Int32) (go gc gb gd gh gr gt gk : Nat → Int32) (gn : Nat → Int64) (er op sz : Int32) (o : Nat → Int64), cx_R a L f0 f1 f2 f3 f4 f5 f6 f7 v md ln → mx_R a go gc gb gd gh gn op → jw_J p l e room_1 s m #[Value.ref b] below meth c D vCl A 8 Q (nc + 1) (ns + 6) 857 [(0, .ref b), (1, .ref (ad 0)), (2, .ref (am 0)), (3, .ref ao), (4, .int (nI i))] [] (wM am cB cI cL go gc gb gd gh gr gt gk gn er op sz ++ wX ad cB cI cL f0 f1 f2 f3 f4 f5 f6 f7 v md ln ++ wO ao cL o)) : jw_J p l e room_1 s m #[Value.ref b] below meth c D vCl A 8 Q (nc) (ns) 96 [(0, .ref b), (1, .ref (ad 0)), (2, .ref (am 0)), (3, .ref ao), (4, .int (nI i))] [] (wM am cB cI cL go gc gb gd gh gr gt gk gn er op sz ++ wX ad cB cI cL f0 f1 f2 f3 f4 f5 f6 f7 v md ln ++ wO ao cL o) := by
  have hn := hQ.1.1
  obtain ⟨vv, hvv⟩ : ∃ q, q = ((xs (i + 3)).toInt64 <<< ((nI 32).toInt64 &&& 63) ||| (xs (i + 4)).toInt64 &&& 4294967295) := ⟨_, rfl⟩
  cases hr1 : a_isrep (xs (i + 1))
  · refine jw_aload_n (pc := 96) F 1 d_L_law_96 rfl rfl ?_
    refine jw_aload_n (pc := 97) F 0 d_L_law_97 rfl rfl ?_
    refine jw_iload (pc := 98) F 4 d_L_law_98 rfl ?_
    refine jw_iconst (pc := 100) (v := nI 1) F d_L_law_100 (by decide) ?_
    refine jw_iadd (pc := 101) F d_L_law_101 ?_
    rw [nI_add]
    refine jw_sld (pc := 102) F hX hbl hbA (i + 1) rfl (by omega) (by omega) d_L_law_102 ?_
    refine jw_aload_n (pc := 103) F 0 d_L_law_103 rfl rfl ?_
    refine jw_iload (pc := 104) F 4 d_L_law_104 rfl ?_
    refine jw_iconst (pc := 106) (v := nI 2) F d_L_law_106 (by decide) ?_
    refine jw_iadd (pc := 107) F d_L_law_107 ?_
    rw [nI_add]
    refine jw_sld (pc := 108) F hX hbl hbA (i + 2) rfl (by omega) (by omega) d_L_law_108 ?_
    refine jw_aload_n (pc := 109) F 0 d_L_law_109 rfl rfl ?_
    refine jw_iload (pc := 110) F 4 d_L_law_110 rfl ?_
    refine jw_iconst (pc := 112) (v := nI 3) F d_L_law_112 (by decide) ?_
    refine jw_iadd (pc := 113) F d_L_law_113 ?_
    rw [nI_add]
    refine jw_sld (pc := 114) F hX hbl hbA (i + 3) rfl (by omega) (by omega) d_L_law_114 ?_
    refine jw_i2l (pc := 115) F d_L_law_115 ?_
    refine jw_bipush (pc := 116) (v := nI 32) F d_L_law_116 (by decide) ?_
    refine jw_lshl (pc := 118) F d_L_law_118 ?_
    refine jw_aload_n (pc := 119) F 0 d_L_law_119 rfl rfl ?_
    refine jw_iload (pc := 120) F 4 d_L_law_120 rfl ?_
    refine jw_iconst (pc := 122) (v := nI 4) F d_L_law_122 (by decide) ?_
    refine jw_iadd (pc := 123) F d_L_law_123 ?_
    rw [nI_add]
    refine jw_sld (pc := 124) F hX hbl hbA (i + 4) rfl (by omega) (by omega) d_L_law_124 ?_
    refine jw_i2l (pc := 125) F d_L_law_125 ?_
    refine jw_ldc2 (pc := 126) (v := 4294967295) F d_L_law_126 (jm w_479) ?_
    refine jw_land (pc := 129) F d_L_law_129 ?_
    refine jw_lor (pc := 130) F d_L_law_130 ?_
    rw [← hvv]
    refine jw_aload_n (pc := 131) F 3 d_L_law_131 rfl rfl ?_
    refine jw_callSW_N (pc := 132) (As := [.ref (ad 0), .int (xs (i + 1)), .int (xs (i + 2)), .long vv, .ref ao]) (rest := []) F jz_okY hZ (wM am cB cI cL go gc gb gd gh gr gt gk gn er op sz) ([]) (w_insert_1 l D ad cB cI cL f0 f1 f2 f3 f4 f5 f6 f7 v md ln ao o a L hQ (xs (i + 1)) hr1 (xs (i + 2)) vv hl) (jw_cwSW F.1.2.2.2.2 wl_good w_83 w_84 w_28 w_85 hd_L_insert.2 ⟨by decide, by decide⟩) (by rw [List.append_nil, List.append_assoc]) rfl rfl (Nat.le_of_ble_eq_true rfl) d_L_law_132 ⟨by show nc + 1 ≤ 1051; omega, by show ns + 6 ≤ 11457; omega⟩ (fun r w hw => ?_)
    obtain ⟨rfl, rfl⟩ := hw
    refine jw_at (lv' := [(0, .ref b), (1, .ref (ad 0)), (2, .ref (am 0)), (3, .ref ao), (4, .int (nI i))]) (st' := [.int 1]) (ws' := wM am cB cI cL go gc gb gd gh gr gt gk gn er op sz ++ wX ad cB cI cL f0 f1 f2 f3 f4 f5 f6 f7 v md ln ++ wO ao cL o) rfl rfl (by rw [List.append_nil, List.append_assoc]) ?_
    refine jw_istore (pc := 135) (lv' := [(0, .ref b), (1, .ref (ad 0)), (2, .ref (am 0)), (3, .ref ao), (4, .int (nI i)), (5, .int 1)]) F d_L_law_135 (by decide) rfl ?_
    refine jw_aload_n (pc := 137) F 2 d_L_law_137 rfl rfl ?_
    refine jw_aload_n (pc := 138) F 0 d_L_law_138 rfl rfl ?_
    refine jw_iload (pc := 139) F 4 d_L_law_139 rfl ?_
    refine jw_iconst (pc := 141) (v := nI 1) F d_L_law_141 (by decide) ?_
    refine jw_iadd (pc := 142) F d_L_law_142 ?_
    rw [nI_add]
    refine jw_sld (pc := 143) F hX hbl hbA (i + 1) rfl (by omega) (by omega) d_L_law_143 ?_
    refine jw_aload_n (pc := 144) F 0 d_L_law_144 rfl rfl ?_
    refine jw_iload (pc := 145) F 4 d_L_law_145 rfl ?_
    refine jw_iconst (pc := 147) (v := nI 2) F d_L_law_147 (by decide) ?_
    refine jw_iadd (pc := 148) F d_L_law_148 ?_
    rw [nI_add]
    refine jw_sld (pc := 149) F hX hbl hbA (i + 2) rfl (by omega) (by omega) d_L_law_149 ?_
    refine jw_aload_n (pc := 150) F 0 d_L_law_150 rfl rfl ?_
    refine jw_iload (pc := 151) F 4 d_L_law_151 rfl ?_
    refine jw_iconst (pc := 153) (v := nI 3) F d_L_law_153 (by decide) ?_
    refine jw_iadd (pc := 154) F d_L_law_154 ?_
    rw [nI_add]
    refine jw_sld (pc := 155) F hX hbl hbA (i + 3) rfl (by omega) (by omega) d_L_law_155 ?_
    refine jw_i2l (pc := 156) F d_L_law_156 ?_
    refine jw_bipush (pc := 157) (v := nI 32) F d_L_law_157 (by decide) ?_
    refine jw_lshl (pc := 159) F d_L_law_159 ?_
    refine jw_aload_n (pc := 160) F 0 d_L_law_160 rfl rfl ?_
    refine jw_iload (pc := 161) F 4 d_L_law_161 rfl ?_
    refine jw_iconst (pc := 163) (v := nI 4) F d_L_law_163 (by decide) ?_
    refine jw_iadd (pc := 164) F d_L_law_164 ?_
    rw [nI_add]
    refine jw_sld (pc := 165) F hX hbl hbA (i + 4) rfl (by omega) (by omega) d_L_law_165 ?_
    refine jw_i2l (pc := 166) F d_L_law_166 ?_
    refine jw_ldc2 (pc := 167) (v := 4294967295) F d_L_law_167 (jm w_479) ?_
    refine jw_land (pc := 170) F d_L_law_170 ?_
    refine jw_lor (pc := 171) F d_L_law_171 ?_
    rw [← hvv]
    refine jw_callV_Gi (pc := 172) (As := [.int (xs (i + 1)), .int (xs (i + 2)), .long vv]) (rest := []) F ([]) (wX ad cB cI cL f0 f1 f2 f3 f4 f5 f6 f7 v md ln ++ wO ao cL o) (m_insert_1 l D am cB cI cL go gc gb gd gh gr gt gk gn er op sz a hQm (xs (i + 1)) hr1 (xs (i + 2)) vv) (jw_cwV F.1.2.2.2.2 wl_good w_383 w_384 w_385 w_30 w_386 hd_M_insert ⟨by decide, by decide⟩) 0 1 rfl rfl rfl (List.append_assoc _ _ _) rfl rfl (Nat.le_of_ble_eq_true rfl) d_L_law_172 ⟨rfl, rfl⟩ ⟨by show nc + 1 ≤ 1051; omega, by show ns + 6 ≤ 11457; omega⟩ (fun r w hw => ?_)
    obtain ⟨rfl, rfl⟩ := hw
    refine jw_at (lv' := [(0, .ref b), (1, .ref (ad 0)), (2, .ref (am 0)), (3, .ref ao), (4, .int (nI i)), (5, .int 1)]) (st' := [.int 0]) (ws' := wM am cB cI cL go gc gb gd gh gr gt gk gn 1 op sz ++ wX ad cB cI cL f0 f1 f2 f3 f4 f5 f6 f7 v md ln ++ wO ao cL o) rfl rfl (by rw [List.nil_append, List.append_assoc]) ?_
    refine jw_istore (pc := 175) (lv' := [(0, .ref b), (1, .ref (ad 0)), (2, .ref (am 0)), (3, .ref ao), (4, .int (nI i)), (5, .int 1), (6, .int 0)]) F d_L_law_175 (by decide) rfl ?_
    refine jw_aload_n (pc := 177) F 2 d_L_law_177 rfl rfl ?_
    refine jw_callV_Ei (pc := 178) (As := []) (rest := []) F ([]) (wX ad cB cI cL f0 f1 f2 f3 f4 f5 f6 f7 v md ln ++ wO ao cL o) (m_thrown l D am cB cI cL go gc gb gd gh gr gt gk gn 1 op sz) (jw_cwV F.1.2.2.2.2 wl_good w_379 w_380 w_381 w_30 w_382 hd_M_thrown ⟨by decide, by decide⟩) 0 1 rfl rfl rfl (List.append_assoc _ _ _) rfl rfl (Nat.le_of_ble_eq_true rfl) d_L_law_178 ⟨rfl, rfl⟩ ⟨by show nc + 1 ≤ 1051; omega, by show ns + 6 ≤ 11457; omega⟩ ?_
    refine jw_iload (pc := 181) F 5 d_L_law_181 rfl ?_
    refine jw_icmp_eq (pc := 183) F 188 d_L_law_183 (by decide) (fun hz1 => ?_) (fun hz1 => False.elim (hz1 rfl))
    refine jw_iload (pc := 188) F 5 d_L_law_188 rfl ?_
    refine jw_if_ne (pc := 190) F 205 d_L_law_190 (by decide) (fun hz2 => ?_) (fun hz2 => False.elim (absurd hz2 (by decide)))
    refine jw_goto (pc := 205) F 857 d_L_law_205 (by decide) ?_
    refine jw_loc (lv' := [(0, .ref b), (1, .ref (ad 0)), (2, .ref (am 0)), (3, .ref ao), (4, .int (nI i))]) [0, 1, 2, 3, 4] rfl ?_
    refine jw_widen (k := nc + 1) (n := ns + 6) (by show nc + 1 ≤ nc + 1; omega) (by show ns + 6 ≤ ns + 6; omega) ?_
    exact kk a L f0 f1 f2 f3 f4 f5 f6 f7 v md ln go gc gb gd gh gr gt gk gn 1 op sz o hQ hQm
  · obtain ⟨r, hr, hr2⟩ := a_isrep_t hr1
    rcases Nat.lt_or_ge (a_n a) 160 with hn1 | hn2
    · by_cases ht1 : xs (i + 2) = -1
      · refine jw_aload_n (pc := 96) F 1 d_L_law_96 rfl rfl ?_
        refine jw_aload_n (pc := 97) F 0 d_L_law_97 rfl rfl ?_
        refine jw_iload (pc := 98) F 4 d_L_law_98 rfl ?_
        refine jw_iconst (pc := 100) (v := nI 1) F d_L_law_100 (by decide) ?_
        refine jw_iadd (pc := 101) F d_L_law_101 ?_
        rw [nI_add]
        refine jw_sld (pc := 102) F hX hbl hbA (i + 1) rfl (by omega) (by omega) d_L_law_102 ?_
        rw [hr2]
        refine jw_aload_n (pc := 103) F 0 d_L_law_103 rfl rfl ?_
        refine jw_iload (pc := 104) F 4 d_L_law_104 rfl ?_
        refine jw_iconst (pc := 106) (v := nI 2) F d_L_law_106 (by decide) ?_
        refine jw_iadd (pc := 107) F d_L_law_107 ?_
        rw [nI_add]
        refine jw_sld (pc := 108) F hX hbl hbA (i + 2) rfl (by omega) (by omega) d_L_law_108 ?_
        refine jw_aload_n (pc := 109) F 0 d_L_law_109 rfl rfl ?_
        refine jw_iload (pc := 110) F 4 d_L_law_110 rfl ?_
        refine jw_iconst (pc := 112) (v := nI 3) F d_L_law_112 (by decide) ?_
        refine jw_iadd (pc := 113) F d_L_law_113 ?_
        rw [nI_add]
        refine jw_sld (pc := 114) F hX hbl hbA (i + 3) rfl (by omega) (by omega) d_L_law_114 ?_
        refine jw_i2l (pc := 115) F d_L_law_115 ?_
        refine jw_bipush (pc := 116) (v := nI 32) F d_L_law_116 (by decide) ?_
        refine jw_lshl (pc := 118) F d_L_law_118 ?_
        refine jw_aload_n (pc := 119) F 0 d_L_law_119 rfl rfl ?_
        refine jw_iload (pc := 120) F 4 d_L_law_120 rfl ?_
        refine jw_iconst (pc := 122) (v := nI 4) F d_L_law_122 (by decide) ?_
        refine jw_iadd (pc := 123) F d_L_law_123 ?_
        rw [nI_add]
        refine jw_sld (pc := 124) F hX hbl hbA (i + 4) rfl (by omega) (by omega) d_L_law_124 ?_
        refine jw_i2l (pc := 125) F d_L_law_125 ?_
        refine jw_ldc2 (pc := 126) (v := 4294967295) F d_L_law_126 (jm w_479) ?_
        refine jw_land (pc := 129) F d_L_law_129 ?_
        refine jw_lor (pc := 130) F d_L_law_130 ?_
        rw [← hvv]
        refine jw_aload_n (pc := 131) F 3 d_L_law_131 rfl rfl ?_
        refine jw_callSW_M (pc := 132) (As := [.ref (ad 0), .int (nI r), .int (xs (i + 2)), .long vv, .ref ao]) (rest := []) F (wM am cB cI cL go gc gb gd gh gr gt gk gn er op sz) ([]) (w_insert_0 l D ad cB cI cL f0 f1 f2 f3 f4 f5 f6 f7 v md ln ao o a L hQ r hr hn1 (xs (i + 2)) (Or.inl ⟨ht1, rfl⟩) vv) (jw_cwSW F.1.2.2.2.2 wl_good w_83 w_84 w_28 w_85 hd_L_insert.2 ⟨by decide, by decide⟩) (by rw [List.append_nil, List.append_assoc]) rfl rfl (Nat.le_of_ble_eq_true rfl) d_L_law_132 ⟨by show nc + 0 ≤ 1051; omega, by show ns + 0 ≤ 11457; omega⟩ (fun r w hw => ?_)
        obtain ⟨rfl, g0, g1, g2, g3, g4, g5, g6, g7, gv, gm, gl, M9, rfl, hQ2⟩ := hw
        refine jw_at (lv' := [(0, .ref b), (1, .ref (ad 0)), (2, .ref (am 0)), (3, .ref ao), (4, .int (nI i))]) (st' := [.int 0]) (ws' := wM am cB cI cL go gc gb gd gh gr gt gk gn er op sz ++ wX ad cB cI cL g0 g1 g2 g3 g4 g5 g6 g7 gv gm gl ++ wO ao cL (vp_updL o 0 (nI (a_n a)).toInt64)) rfl rfl (by rw [List.append_nil, List.append_assoc]) ?_
        refine jw_istore (pc := 135) (lv' := [(0, .ref b), (1, .ref (ad 0)), (2, .ref (am 0)), (3, .ref ao), (4, .int (nI i)), (5, .int 0)]) F d_L_law_135 (by decide) rfl ?_
        refine jw_aload_n (pc := 137) F 2 d_L_law_137 rfl rfl ?_
        refine jw_aload_n (pc := 138) F 0 d_L_law_138 rfl rfl ?_
        refine jw_iload (pc := 139) F 4 d_L_law_139 rfl ?_
        refine jw_iconst (pc := 141) (v := nI 1) F d_L_law_141 (by decide) ?_
        refine jw_iadd (pc := 142) F d_L_law_142 ?_
        rw [nI_add]
        refine jw_sld (pc := 143) F hX hbl hbA (i + 1) rfl (by omega) (by omega) d_L_law_143 ?_
        rw [hr2]
        refine jw_aload_n (pc := 144) F 0 d_L_law_144 rfl rfl ?_
        refine jw_iload (pc := 145) F 4 d_L_law_145 rfl ?_
        refine jw_iconst (pc := 147) (v := nI 2) F d_L_law_147 (by decide) ?_
        refine jw_iadd (pc := 148) F d_L_law_148 ?_
        rw [nI_add]
        refine jw_sld (pc := 149) F hX hbl hbA (i + 2) rfl (by omega) (by omega) d_L_law_149 ?_
        refine jw_aload_n (pc := 150) F 0 d_L_law_150 rfl rfl ?_
        refine jw_iload (pc := 151) F 4 d_L_law_151 rfl ?_
        refine jw_iconst (pc := 153) (v := nI 3) F d_L_law_153 (by decide) ?_
        refine jw_iadd (pc := 154) F d_L_law_154 ?_
        rw [nI_add]
        refine jw_sld (pc := 155) F hX hbl hbA (i + 3) rfl (by omega) (by omega) d_L_law_155 ?_
        refine jw_i2l (pc := 156) F d_L_law_156 ?_
        refine jw_bipush (pc := 157) (v := nI 32) F d_L_law_157 (by decide) ?_
        refine jw_lshl (pc := 159) F d_L_law_159 ?_
        refine jw_aload_n (pc := 160) F 0 d_L_law_160 rfl rfl ?_
        refine jw_iload (pc := 161) F 4 d_L_law_161 rfl ?_
        refine jw_iconst (pc := 163) (v := nI 4) F d_L_law_163 (by decide) ?_
        refine jw_iadd (pc := 164) F d_L_law_164 ?_
        rw [nI_add]
        refine jw_sld (pc := 165) F hX hbl hbA (i + 4) rfl (by omega) (by omega) d_L_law_165 ?_
        refine jw_i2l (pc := 166) F d_L_law_166 ?_
        refine jw_ldc2 (pc := 167) (v := 4294967295) F d_L_law_167 (jm w_479) ?_
        refine jw_land (pc := 170) F d_L_law_170 ?_
        refine jw_lor (pc := 171) F d_L_law_171 ?_
        rw [← hvv]
        refine jw_callV_Gi (pc := 172) (As := [.int (nI r), .int (xs (i + 2)), .long vv]) (rest := []) F ([]) (wX ad cB cI cL g0 g1 g2 g3 g4 g5 g6 g7 gv gm gl ++ wO ao cL (vp_updL o 0 (nI (a_n a)).toInt64)) (m_insert_0 l D am cB cI cL go gc gb gd gh gr gt gk gn er op sz a hQm r hr hn1 (xs (i + 2)) vv (Or.inl ⟨ht1, rfl⟩)) (jw_cwV F.1.2.2.2.2 wl_good w_383 w_384 w_385 w_30 w_386 hd_M_insert ⟨by decide, by decide⟩) 0 1 rfl rfl rfl (List.append_assoc _ _ _) rfl rfl (Nat.le_of_ble_eq_true rfl) d_L_law_172 ⟨rfl, rfl⟩ ⟨by show nc + 0 ≤ 1051; omega, by show ns + 0 ≤ 11457; omega⟩ (fun r w hw => ?_)
        obtain ⟨rfl, ko, kc, kb, kd, kh, kn, ko2, rfl, hQm2⟩ := hw
        refine jw_at (lv' := [(0, .ref b), (1, .ref (ad 0)), (2, .ref (am 0)), (3, .ref ao), (4, .int (nI i)), (5, .int 0)]) (st' := [.int (nI (a_n a))]) (ws' := wM am cB cI cL ko kc kb kd kh gr gt gk kn 0 ko2 sz ++ wX ad cB cI cL g0 g1 g2 g3 g4 g5 g6 g7 gv gm gl ++ wO ao cL (vp_updL o 0 (nI (a_n a)).toInt64)) rfl rfl (by rw [List.nil_append, List.append_assoc]) ?_
        refine jw_istore (pc := 175) (lv' := [(0, .ref b), (1, .ref (ad 0)), (2, .ref (am 0)), (3, .ref ao), (4, .int (nI i)), (5, .int 0), (6, .int (nI (a_n a)))]) F d_L_law_175 (by decide) rfl ?_
        refine jw_aload_n (pc := 177) F 2 d_L_law_177 rfl rfl ?_
        refine jw_callV_Ei (pc := 178) (As := []) (rest := []) F ([]) (wX ad cB cI cL g0 g1 g2 g3 g4 g5 g6 g7 gv gm gl ++ wO ao cL (vp_updL o 0 (nI (a_n a)).toInt64)) (m_thrown l D am cB cI cL ko kc kb kd kh gr gt gk kn 0 ko2 sz) (jw_cwV F.1.2.2.2.2 wl_good w_379 w_380 w_381 w_30 w_382 hd_M_thrown ⟨by decide, by decide⟩) 0 1 rfl rfl rfl (List.append_assoc _ _ _) rfl rfl (Nat.le_of_ble_eq_true rfl) d_L_law_178 ⟨rfl, rfl⟩ ⟨by show nc + 0 ≤ 1051; omega, by show ns + 0 ≤ 11457; omega⟩ ?_
        refine jw_iload (pc := 181) F 5 d_L_law_181 rfl ?_
        refine jw_icmp_eq (pc := 183) F 188 d_L_law_183 (by decide) (fun hz3 => ?_) (fun hz3 => False.elim (hz3 rfl))
        refine jw_iload (pc := 188) F 5 d_L_law_188 rfl ?_
        refine jw_if_ne (pc := 190) F 205 d_L_law_190 (by decide) (fun hz4 => False.elim (hz4 rfl)) (fun hz4 => ?_)
        refine jw_aload_n (pc := 193) F 3 d_L_law_193 rfl rfl ?_
        refine jw_iconst (pc := 194) (v := nI 0) F d_L_law_194 (by decide) ?_
        refine jw_laldN (pc := 195) F 20 2 rfl rfl 0 rfl (by omega) (by decide) d_L_law_195 ?_
        refine jw_iload (pc := 196) F 6 d_L_law_196 rfl ?_
        refine jw_i2l (pc := 198) F d_L_law_198 ?_
        refine jw_lcmp (pc := 199) F d_L_law_199 ?_
        refine jw_if_eq (pc := 200) F 205 d_L_law_200 (by decide) (fun hz5 => ?_) (fun hz5 => False.elim (hz5 ((lg_cmp_eq _ _).mpr (pk_uLs))))
        refine jw_goto (pc := 205) F 857 d_L_law_205 (by decide) ?_
        refine jw_loc (lv' := [(0, .ref b), (1, .ref (ad 0)), (2, .ref (am 0)), (3, .ref ao), (4, .int (nI i))]) [0, 1, 2, 3, 4] rfl ?_
        refine jw_widen (k := nc + 1) (n := ns + 6) (by show nc + 0 ≤ nc + 1; omega) (by show ns + 0 ≤ ns + 6; omega) ?_
        exact kk (ab_new a r (xs (i + 2)) false vv) M9 g0 g1 g2 g3 g4 g5 g6 g7 gv gm gl ko kc kb kd kh gr gt gk kn 0 ko2 sz (vp_updL o 0 (nI (a_n a)).toInt64) hQ2 hQm2
      · cases hh : a_haseB a r (xs (i + 2))
        · refine jw_aload_n (pc := 96) F 1 d_L_law_96 rfl rfl ?_
          refine jw_aload_n (pc := 97) F 0 d_L_law_97 rfl rfl ?_
          refine jw_iload (pc := 98) F 4 d_L_law_98 rfl ?_
          refine jw_iconst (pc := 100) (v := nI 1) F d_L_law_100 (by decide) ?_
          refine jw_iadd (pc := 101) F d_L_law_101 ?_
          rw [nI_add]
          refine jw_sld (pc := 102) F hX hbl hbA (i + 1) rfl (by omega) (by omega) d_L_law_102 ?_
          rw [hr2]
          refine jw_aload_n (pc := 103) F 0 d_L_law_103 rfl rfl ?_
          refine jw_iload (pc := 104) F 4 d_L_law_104 rfl ?_
          refine jw_iconst (pc := 106) (v := nI 2) F d_L_law_106 (by decide) ?_
          refine jw_iadd (pc := 107) F d_L_law_107 ?_
          rw [nI_add]
          refine jw_sld (pc := 108) F hX hbl hbA (i + 2) rfl (by omega) (by omega) d_L_law_108 ?_
          refine jw_aload_n (pc := 109) F 0 d_L_law_109 rfl rfl ?_
          refine jw_iload (pc := 110) F 4 d_L_law_110 rfl ?_
          refine jw_iconst (pc := 112) (v := nI 3) F d_L_law_112 (by decide) ?_
          refine jw_iadd (pc := 113) F d_L_law_113 ?_
          rw [nI_add]
          refine jw_sld (pc := 114) F hX hbl hbA (i + 3) rfl (by omega) (by omega) d_L_law_114 ?_
          refine jw_i2l (pc := 115) F d_L_law_115 ?_
          refine jw_bipush (pc := 116) (v := nI 32) F d_L_law_116 (by decide) ?_
          refine jw_lshl (pc := 118) F d_L_law_118 ?_
          refine jw_aload_n (pc := 119) F 0 d_L_law_119 rfl rfl ?_
          refine jw_iload (pc := 120) F 4 d_L_law_120 rfl ?_
          refine jw_iconst (pc := 122) (v := nI 4) F d_L_law_122 (by decide) ?_
          refine jw_iadd (pc := 123) F d_L_law_123 ?_
          rw [nI_add]
          refine jw_sld (pc := 124) F hX hbl hbA (i + 4) rfl (by omega) (by omega) d_L_law_124 ?_
          refine jw_i2l (pc := 125) F d_L_law_125 ?_
          refine jw_ldc2 (pc := 126) (v := 4294967295) F d_L_law_126 (jm w_479) ?_
          refine jw_land (pc := 129) F d_L_law_129 ?_
          refine jw_lor (pc := 130) F d_L_law_130 ?_
          rw [← hvv]
          refine jw_aload_n (pc := 131) F 3 d_L_law_131 rfl rfl ?_
          refine jw_callSW_N (pc := 132) (As := [.ref (ad 0), .int (nI r), .int (xs (i + 2)), .long vv, .ref ao]) (rest := []) F jz_okY hZ (wM am cB cI cL go gc gb gd gh gr gt gk gn er op sz) ([]) (w_insert_3 l D ad cB cI cL f0 f1 f2 f3 f4 f5 f6 f7 v md ln ao o a L hQ r hr hn1 (xs (i + 2)) vv ht1 hh hl) (jw_cwSW F.1.2.2.2.2 wl_good w_83 w_84 w_28 w_85 hd_L_insert.2 ⟨by decide, by decide⟩) (by rw [List.append_nil, List.append_assoc]) rfl rfl (Nat.le_of_ble_eq_true rfl) d_L_law_132 ⟨by show nc + 1 ≤ 1051; omega, by show ns + 6 ≤ 11457; omega⟩ (fun r w hw => ?_)
          obtain ⟨rfl, rfl⟩ := hw
          refine jw_at (lv' := [(0, .ref b), (1, .ref (ad 0)), (2, .ref (am 0)), (3, .ref ao), (4, .int (nI i))]) (st' := [.int 3]) (ws' := wM am cB cI cL go gc gb gd gh gr gt gk gn er op sz ++ wX ad cB cI cL f0 f1 f2 f3 f4 f5 f6 f7 v md ln ++ wO ao cL o) rfl rfl (by rw [List.append_nil, List.append_assoc]) ?_
          refine jw_istore (pc := 135) (lv' := [(0, .ref b), (1, .ref (ad 0)), (2, .ref (am 0)), (3, .ref ao), (4, .int (nI i)), (5, .int 3)]) F d_L_law_135 (by decide) rfl ?_
          refine jw_aload_n (pc := 137) F 2 d_L_law_137 rfl rfl ?_
          refine jw_aload_n (pc := 138) F 0 d_L_law_138 rfl rfl ?_
          refine jw_iload (pc := 139) F 4 d_L_law_139 rfl ?_
          refine jw_iconst (pc := 141) (v := nI 1) F d_L_law_141 (by decide) ?_
          refine jw_iadd (pc := 142) F d_L_law_142 ?_
          rw [nI_add]
          refine jw_sld (pc := 143) F hX hbl hbA (i + 1) rfl (by omega) (by omega) d_L_law_143 ?_
          rw [hr2]
          refine jw_aload_n (pc := 144) F 0 d_L_law_144 rfl rfl ?_
          refine jw_iload (pc := 145) F 4 d_L_law_145 rfl ?_
          refine jw_iconst (pc := 147) (v := nI 2) F d_L_law_147 (by decide) ?_
          refine jw_iadd (pc := 148) F d_L_law_148 ?_
          rw [nI_add]
          refine jw_sld (pc := 149) F hX hbl hbA (i + 2) rfl (by omega) (by omega) d_L_law_149 ?_
          refine jw_aload_n (pc := 150) F 0 d_L_law_150 rfl rfl ?_
          refine jw_iload (pc := 151) F 4 d_L_law_151 rfl ?_
          refine jw_iconst (pc := 153) (v := nI 3) F d_L_law_153 (by decide) ?_
          refine jw_iadd (pc := 154) F d_L_law_154 ?_
          rw [nI_add]
          refine jw_sld (pc := 155) F hX hbl hbA (i + 3) rfl (by omega) (by omega) d_L_law_155 ?_
          refine jw_i2l (pc := 156) F d_L_law_156 ?_
          refine jw_bipush (pc := 157) (v := nI 32) F d_L_law_157 (by decide) ?_
          refine jw_lshl (pc := 159) F d_L_law_159 ?_
          refine jw_aload_n (pc := 160) F 0 d_L_law_160 rfl rfl ?_
          refine jw_iload (pc := 161) F 4 d_L_law_161 rfl ?_
          refine jw_iconst (pc := 163) (v := nI 4) F d_L_law_163 (by decide) ?_
          refine jw_iadd (pc := 164) F d_L_law_164 ?_
          rw [nI_add]
          refine jw_sld (pc := 165) F hX hbl hbA (i + 4) rfl (by omega) (by omega) d_L_law_165 ?_
          refine jw_i2l (pc := 166) F d_L_law_166 ?_
          refine jw_ldc2 (pc := 167) (v := 4294967295) F d_L_law_167 (jm w_479) ?_
          refine jw_land (pc := 170) F d_L_law_170 ?_
          refine jw_lor (pc := 171) F d_L_law_171 ?_
          rw [← hvv]
          refine jw_callV_Gi (pc := 172) (As := [.int (nI r), .int (xs (i + 2)), .long vv]) (rest := []) F ([]) (wX ad cB cI cL f0 f1 f2 f3 f4 f5 f6 f7 v md ln ++ wO ao cL o) (m_insert_3 l D am cB cI cL go gc gb gd gh gr gt gk gn er op sz a hQm r hr hn1 (xs (i + 2)) vv ht1 hh) (jw_cwV F.1.2.2.2.2 wl_good w_383 w_384 w_385 w_30 w_386 hd_M_insert ⟨by decide, by decide⟩) 0 1 rfl rfl rfl (List.append_assoc _ _ _) rfl rfl (Nat.le_of_ble_eq_true rfl) d_L_law_172 ⟨rfl, rfl⟩ ⟨by show nc + 1 ≤ 1051; omega, by show ns + 6 ≤ 11457; omega⟩ (fun r w hw => ?_)
          obtain ⟨rfl, rfl⟩ := hw
          refine jw_at (lv' := [(0, .ref b), (1, .ref (ad 0)), (2, .ref (am 0)), (3, .ref ao), (4, .int (nI i)), (5, .int 3)]) (st' := [.int 0]) (ws' := wM am cB cI cL go gc gb gd gh gr gt gk gn 3 op sz ++ wX ad cB cI cL f0 f1 f2 f3 f4 f5 f6 f7 v md ln ++ wO ao cL o) rfl rfl (by rw [List.nil_append, List.append_assoc]) ?_
          refine jw_istore (pc := 175) (lv' := [(0, .ref b), (1, .ref (ad 0)), (2, .ref (am 0)), (3, .ref ao), (4, .int (nI i)), (5, .int 3), (6, .int 0)]) F d_L_law_175 (by decide) rfl ?_
          refine jw_aload_n (pc := 177) F 2 d_L_law_177 rfl rfl ?_
          refine jw_callV_Ei (pc := 178) (As := []) (rest := []) F ([]) (wX ad cB cI cL f0 f1 f2 f3 f4 f5 f6 f7 v md ln ++ wO ao cL o) (m_thrown l D am cB cI cL go gc gb gd gh gr gt gk gn 3 op sz) (jw_cwV F.1.2.2.2.2 wl_good w_379 w_380 w_381 w_30 w_382 hd_M_thrown ⟨by decide, by decide⟩) 0 1 rfl rfl rfl (List.append_assoc _ _ _) rfl rfl (Nat.le_of_ble_eq_true rfl) d_L_law_178 ⟨rfl, rfl⟩ ⟨by show nc + 1 ≤ 1051; omega, by show ns + 6 ≤ 11457; omega⟩ ?_
          refine jw_iload (pc := 181) F 5 d_L_law_181 rfl ?_
          refine jw_icmp_eq (pc := 183) F 188 d_L_law_183 (by decide) (fun hz6 => ?_) (fun hz6 => False.elim (hz6 rfl))
          refine jw_iload (pc := 188) F 5 d_L_law_188 rfl ?_
          refine jw_if_ne (pc := 190) F 205 d_L_law_190 (by decide) (fun hz7 => ?_) (fun hz7 => False.elim (absurd hz7 (by decide)))
          refine jw_goto (pc := 205) F 857 d_L_law_205 (by decide) ?_
          refine jw_loc (lv' := [(0, .ref b), (1, .ref (ad 0)), (2, .ref (am 0)), (3, .ref ao), (4, .int (nI i))]) [0, 1, 2, 3, 4] rfl ?_
          refine jw_widen (k := nc + 1) (n := ns + 6) (by show nc + 1 ≤ nc + 1; omega) (by show ns + 6 ≤ ns + 6; omega) ?_
          exact kk a L f0 f1 f2 f3 f4 f5 f6 f7 v md ln go gc gb gd gh gr gt gk gn 3 op sz o hQ hQm
        · refine jw_aload_n (pc := 96) F 1 d_L_law_96 rfl rfl ?_
          refine jw_aload_n (pc := 97) F 0 d_L_law_97 rfl rfl ?_
          refine jw_iload (pc := 98) F 4 d_L_law_98 rfl ?_
          refine jw_iconst (pc := 100) (v := nI 1) F d_L_law_100 (by decide) ?_
          refine jw_iadd (pc := 101) F d_L_law_101 ?_
          rw [nI_add]
          refine jw_sld (pc := 102) F hX hbl hbA (i + 1) rfl (by omega) (by omega) d_L_law_102 ?_
          rw [hr2]
          refine jw_aload_n (pc := 103) F 0 d_L_law_103 rfl rfl ?_
          refine jw_iload (pc := 104) F 4 d_L_law_104 rfl ?_
          refine jw_iconst (pc := 106) (v := nI 2) F d_L_law_106 (by decide) ?_
          refine jw_iadd (pc := 107) F d_L_law_107 ?_
          rw [nI_add]
          refine jw_sld (pc := 108) F hX hbl hbA (i + 2) rfl (by omega) (by omega) d_L_law_108 ?_
          refine jw_aload_n (pc := 109) F 0 d_L_law_109 rfl rfl ?_
          refine jw_iload (pc := 110) F 4 d_L_law_110 rfl ?_
          refine jw_iconst (pc := 112) (v := nI 3) F d_L_law_112 (by decide) ?_
          refine jw_iadd (pc := 113) F d_L_law_113 ?_
          rw [nI_add]
          refine jw_sld (pc := 114) F hX hbl hbA (i + 3) rfl (by omega) (by omega) d_L_law_114 ?_
          refine jw_i2l (pc := 115) F d_L_law_115 ?_
          refine jw_bipush (pc := 116) (v := nI 32) F d_L_law_116 (by decide) ?_
          refine jw_lshl (pc := 118) F d_L_law_118 ?_
          refine jw_aload_n (pc := 119) F 0 d_L_law_119 rfl rfl ?_
          refine jw_iload (pc := 120) F 4 d_L_law_120 rfl ?_
          refine jw_iconst (pc := 122) (v := nI 4) F d_L_law_122 (by decide) ?_
          refine jw_iadd (pc := 123) F d_L_law_123 ?_
          rw [nI_add]
          refine jw_sld (pc := 124) F hX hbl hbA (i + 4) rfl (by omega) (by omega) d_L_law_124 ?_
          refine jw_i2l (pc := 125) F d_L_law_125 ?_
          refine jw_ldc2 (pc := 126) (v := 4294967295) F d_L_law_126 (jm w_479) ?_
          refine jw_land (pc := 129) F d_L_law_129 ?_
          refine jw_lor (pc := 130) F d_L_law_130 ?_
          rw [← hvv]
          refine jw_aload_n (pc := 131) F 3 d_L_law_131 rfl rfl ?_
          refine jw_callSW_M (pc := 132) (As := [.ref (ad 0), .int (nI r), .int (xs (i + 2)), .long vv, .ref ao]) (rest := []) F (wM am cB cI cL go gc gb gd gh gr gt gk gn er op sz) ([]) (w_insert_0 l D ad cB cI cL f0 f1 f2 f3 f4 f5 f6 f7 v md ln ao o a L hQ r hr hn1 (xs (i + 2)) (ab_ok_of hn hh) vv) (jw_cwSW F.1.2.2.2.2 wl_good w_83 w_84 w_28 w_85 hd_L_insert.2 ⟨by decide, by decide⟩) (by rw [List.append_nil, List.append_assoc]) rfl rfl (Nat.le_of_ble_eq_true rfl) d_L_law_132 ⟨by show nc + 0 ≤ 1051; omega, by show ns + 0 ≤ 11457; omega⟩ (fun r w hw => ?_)
          obtain ⟨rfl, g0, g1, g2, g3, g4, g5, g6, g7, gv, gm, gl, M9, rfl, hQ2⟩ := hw
          refine jw_at (lv' := [(0, .ref b), (1, .ref (ad 0)), (2, .ref (am 0)), (3, .ref ao), (4, .int (nI i))]) (st' := [.int 0]) (ws' := wM am cB cI cL go gc gb gd gh gr gt gk gn er op sz ++ wX ad cB cI cL g0 g1 g2 g3 g4 g5 g6 g7 gv gm gl ++ wO ao cL (vp_updL o 0 (nI (a_n a)).toInt64)) rfl rfl (by rw [List.append_nil, List.append_assoc]) ?_
          refine jw_istore (pc := 135) (lv' := [(0, .ref b), (1, .ref (ad 0)), (2, .ref (am 0)), (3, .ref ao), (4, .int (nI i)), (5, .int 0)]) F d_L_law_135 (by decide) rfl ?_
          refine jw_aload_n (pc := 137) F 2 d_L_law_137 rfl rfl ?_
          refine jw_aload_n (pc := 138) F 0 d_L_law_138 rfl rfl ?_
          refine jw_iload (pc := 139) F 4 d_L_law_139 rfl ?_
          refine jw_iconst (pc := 141) (v := nI 1) F d_L_law_141 (by decide) ?_
          refine jw_iadd (pc := 142) F d_L_law_142 ?_
          rw [nI_add]
          refine jw_sld (pc := 143) F hX hbl hbA (i + 1) rfl (by omega) (by omega) d_L_law_143 ?_
          rw [hr2]
          refine jw_aload_n (pc := 144) F 0 d_L_law_144 rfl rfl ?_
          refine jw_iload (pc := 145) F 4 d_L_law_145 rfl ?_
          refine jw_iconst (pc := 147) (v := nI 2) F d_L_law_147 (by decide) ?_
          refine jw_iadd (pc := 148) F d_L_law_148 ?_
          rw [nI_add]
          refine jw_sld (pc := 149) F hX hbl hbA (i + 2) rfl (by omega) (by omega) d_L_law_149 ?_
          refine jw_aload_n (pc := 150) F 0 d_L_law_150 rfl rfl ?_
          refine jw_iload (pc := 151) F 4 d_L_law_151 rfl ?_
          refine jw_iconst (pc := 153) (v := nI 3) F d_L_law_153 (by decide) ?_
          refine jw_iadd (pc := 154) F d_L_law_154 ?_
          rw [nI_add]
          refine jw_sld (pc := 155) F hX hbl hbA (i + 3) rfl (by omega) (by omega) d_L_law_155 ?_
          refine jw_i2l (pc := 156) F d_L_law_156 ?_
          refine jw_bipush (pc := 157) (v := nI 32) F d_L_law_157 (by decide) ?_
          refine jw_lshl (pc := 159) F d_L_law_159 ?_
          refine jw_aload_n (pc := 160) F 0 d_L_law_160 rfl rfl ?_
          refine jw_iload (pc := 161) F 4 d_L_law_161 rfl ?_
          refine jw_iconst (pc := 163) (v := nI 4) F d_L_law_163 (by decide) ?_
          refine jw_iadd (pc := 164) F d_L_law_164 ?_
          rw [nI_add]
          refine jw_sld (pc := 165) F hX hbl hbA (i + 4) rfl (by omega) (by omega) d_L_law_165 ?_
          refine jw_i2l (pc := 166) F d_L_law_166 ?_
          refine jw_ldc2 (pc := 167) (v := 4294967295) F d_L_law_167 (jm w_479) ?_
          refine jw_land (pc := 170) F d_L_law_170 ?_
          refine jw_lor (pc := 171) F d_L_law_171 ?_
          rw [← hvv]
          refine jw_callV_Gi (pc := 172) (As := [.int (nI r), .int (xs (i + 2)), .long vv]) (rest := []) F ([]) (wX ad cB cI cL g0 g1 g2 g3 g4 g5 g6 g7 gv gm gl ++ wO ao cL (vp_updL o 0 (nI (a_n a)).toInt64)) (m_insert_0 l D am cB cI cL go gc gb gd gh gr gt gk gn er op sz a hQm r hr hn1 (xs (i + 2)) vv (ab_ok_of hn hh)) (jw_cwV F.1.2.2.2.2 wl_good w_383 w_384 w_385 w_30 w_386 hd_M_insert ⟨by decide, by decide⟩) 0 1 rfl rfl rfl (List.append_assoc _ _ _) rfl rfl (Nat.le_of_ble_eq_true rfl) d_L_law_172 ⟨rfl, rfl⟩ ⟨by show nc + 0 ≤ 1051; omega, by show ns + 0 ≤ 11457; omega⟩ (fun r w hw => ?_)
          obtain ⟨rfl, ko, kc, kb, kd, kh, kn, ko2, rfl, hQm2⟩ := hw
          refine jw_at (lv' := [(0, .ref b), (1, .ref (ad 0)), (2, .ref (am 0)), (3, .ref ao), (4, .int (nI i)), (5, .int 0)]) (st' := [.int (nI (a_n a))]) (ws' := wM am cB cI cL ko kc kb kd kh gr gt gk kn 0 ko2 sz ++ wX ad cB cI cL g0 g1 g2 g3 g4 g5 g6 g7 gv gm gl ++ wO ao cL (vp_updL o 0 (nI (a_n a)).toInt64)) rfl rfl (by rw [List.nil_append, List.append_assoc]) ?_
          refine jw_istore (pc := 175) (lv' := [(0, .ref b), (1, .ref (ad 0)), (2, .ref (am 0)), (3, .ref ao), (4, .int (nI i)), (5, .int 0), (6, .int (nI (a_n a)))]) F d_L_law_175 (by decide) rfl ?_
          refine jw_aload_n (pc := 177) F 2 d_L_law_177 rfl rfl ?_
          refine jw_callV_Ei (pc := 178) (As := []) (rest := []) F ([]) (wX ad cB cI cL g0 g1 g2 g3 g4 g5 g6 g7 gv gm gl ++ wO ao cL (vp_updL o 0 (nI (a_n a)).toInt64)) (m_thrown l D am cB cI cL ko kc kb kd kh gr gt gk kn 0 ko2 sz) (jw_cwV F.1.2.2.2.2 wl_good w_379 w_380 w_381 w_30 w_382 hd_M_thrown ⟨by decide, by decide⟩) 0 1 rfl rfl rfl (List.append_assoc _ _ _) rfl rfl (Nat.le_of_ble_eq_true rfl) d_L_law_178 ⟨rfl, rfl⟩ ⟨by show nc + 0 ≤ 1051; omega, by show ns + 0 ≤ 11457; omega⟩ ?_
          refine jw_iload (pc := 181) F 5 d_L_law_181 rfl ?_
          refine jw_icmp_eq (pc := 183) F 188 d_L_law_183 (by decide) (fun hz8 => ?_) (fun hz8 => False.elim (hz8 rfl))
          refine jw_iload (pc := 188) F 5 d_L_law_188 rfl ?_
          refine jw_if_ne (pc := 190) F 205 d_L_law_190 (by decide) (fun hz9 => False.elim (hz9 rfl)) (fun hz9 => ?_)
          refine jw_aload_n (pc := 193) F 3 d_L_law_193 rfl rfl ?_
          refine jw_iconst (pc := 194) (v := nI 0) F d_L_law_194 (by decide) ?_
          refine jw_laldN (pc := 195) F 20 2 rfl rfl 0 rfl (by omega) (by decide) d_L_law_195 ?_
          refine jw_iload (pc := 196) F 6 d_L_law_196 rfl ?_
          refine jw_i2l (pc := 198) F d_L_law_198 ?_
          refine jw_lcmp (pc := 199) F d_L_law_199 ?_
          refine jw_if_eq (pc := 200) F 205 d_L_law_200 (by decide) (fun hz10 => ?_) (fun hz10 => False.elim (hz10 ((lg_cmp_eq _ _).mpr (pk_uLs))))
          refine jw_goto (pc := 205) F 857 d_L_law_205 (by decide) ?_
          refine jw_loc (lv' := [(0, .ref b), (1, .ref (ad 0)), (2, .ref (am 0)), (3, .ref ao), (4, .int (nI i))]) [0, 1, 2, 3, 4] rfl ?_
          refine jw_widen (k := nc + 1) (n := ns + 6) (by show nc + 0 ≤ nc + 1; omega) (by show ns + 0 ≤ ns + 6; omega) ?_
          exact kk (ab_new a r (xs (i + 2)) false vv) M9 g0 g1 g2 g3 g4 g5 g6 g7 gv gm gl ko kc kb kd kh gr gt gk kn 0 ko2 sz (vp_updL o 0 (nI (a_n a)).toInt64) hQ2 hQm2
    · have hn1 : a_n a = 160 := by omega
      refine jw_aload_n (pc := 96) F 1 d_L_law_96 rfl rfl ?_
      refine jw_aload_n (pc := 97) F 0 d_L_law_97 rfl rfl ?_
      refine jw_iload (pc := 98) F 4 d_L_law_98 rfl ?_
      refine jw_iconst (pc := 100) (v := nI 1) F d_L_law_100 (by decide) ?_
      refine jw_iadd (pc := 101) F d_L_law_101 ?_
      rw [nI_add]
      refine jw_sld (pc := 102) F hX hbl hbA (i + 1) rfl (by omega) (by omega) d_L_law_102 ?_
      rw [hr2]
      refine jw_aload_n (pc := 103) F 0 d_L_law_103 rfl rfl ?_
      refine jw_iload (pc := 104) F 4 d_L_law_104 rfl ?_
      refine jw_iconst (pc := 106) (v := nI 2) F d_L_law_106 (by decide) ?_
      refine jw_iadd (pc := 107) F d_L_law_107 ?_
      rw [nI_add]
      refine jw_sld (pc := 108) F hX hbl hbA (i + 2) rfl (by omega) (by omega) d_L_law_108 ?_
      refine jw_aload_n (pc := 109) F 0 d_L_law_109 rfl rfl ?_
      refine jw_iload (pc := 110) F 4 d_L_law_110 rfl ?_
      refine jw_iconst (pc := 112) (v := nI 3) F d_L_law_112 (by decide) ?_
      refine jw_iadd (pc := 113) F d_L_law_113 ?_
      rw [nI_add]
      refine jw_sld (pc := 114) F hX hbl hbA (i + 3) rfl (by omega) (by omega) d_L_law_114 ?_
      refine jw_i2l (pc := 115) F d_L_law_115 ?_
      refine jw_bipush (pc := 116) (v := nI 32) F d_L_law_116 (by decide) ?_
      refine jw_lshl (pc := 118) F d_L_law_118 ?_
      refine jw_aload_n (pc := 119) F 0 d_L_law_119 rfl rfl ?_
      refine jw_iload (pc := 120) F 4 d_L_law_120 rfl ?_
      refine jw_iconst (pc := 122) (v := nI 4) F d_L_law_122 (by decide) ?_
      refine jw_iadd (pc := 123) F d_L_law_123 ?_
      rw [nI_add]
      refine jw_sld (pc := 124) F hX hbl hbA (i + 4) rfl (by omega) (by omega) d_L_law_124 ?_
      refine jw_i2l (pc := 125) F d_L_law_125 ?_
      refine jw_ldc2 (pc := 126) (v := 4294967295) F d_L_law_126 (jm w_479) ?_
      refine jw_land (pc := 129) F d_L_law_129 ?_
      refine jw_lor (pc := 130) F d_L_law_130 ?_
      rw [← hvv]
      refine jw_aload_n (pc := 131) F 3 d_L_law_131 rfl rfl ?_
      refine jw_callSW_N (pc := 132) (As := [.ref (ad 0), .int (nI r), .int (xs (i + 2)), .long vv, .ref ao]) (rest := []) F jz_okY hZ (wM am cB cI cL go gc gb gd gh gr gt gk gn er op sz) ([]) (w_insert_2 l D ad cB cI cL f0 f1 f2 f3 f4 f5 f6 f7 v md ln ao o a L hQ r hr hn1 (xs (i + 2)) vv hl) (jw_cwSW F.1.2.2.2.2 wl_good w_83 w_84 w_28 w_85 hd_L_insert.2 ⟨by decide, by decide⟩) (by rw [List.append_nil, List.append_assoc]) rfl rfl (Nat.le_of_ble_eq_true rfl) d_L_law_132 ⟨by show nc + 1 ≤ 1051; omega, by show ns + 6 ≤ 11457; omega⟩ (fun r w hw => ?_)
      obtain ⟨rfl, rfl⟩ := hw
      refine jw_at (lv' := [(0, .ref b), (1, .ref (ad 0)), (2, .ref (am 0)), (3, .ref ao), (4, .int (nI i))]) (st' := [.int 2]) (ws' := wM am cB cI cL go gc gb gd gh gr gt gk gn er op sz ++ wX ad cB cI cL f0 f1 f2 f3 f4 f5 f6 f7 v md ln ++ wO ao cL o) rfl rfl (by rw [List.append_nil, List.append_assoc]) ?_
      refine jw_istore (pc := 135) (lv' := [(0, .ref b), (1, .ref (ad 0)), (2, .ref (am 0)), (3, .ref ao), (4, .int (nI i)), (5, .int 2)]) F d_L_law_135 (by decide) rfl ?_
      refine jw_aload_n (pc := 137) F 2 d_L_law_137 rfl rfl ?_
      refine jw_aload_n (pc := 138) F 0 d_L_law_138 rfl rfl ?_
      refine jw_iload (pc := 139) F 4 d_L_law_139 rfl ?_
      refine jw_iconst (pc := 141) (v := nI 1) F d_L_law_141 (by decide) ?_
      refine jw_iadd (pc := 142) F d_L_law_142 ?_
      rw [nI_add]
      refine jw_sld (pc := 143) F hX hbl hbA (i + 1) rfl (by omega) (by omega) d_L_law_143 ?_
      rw [hr2]
      refine jw_aload_n (pc := 144) F 0 d_L_law_144 rfl rfl ?_
      refine jw_iload (pc := 145) F 4 d_L_law_145 rfl ?_
      refine jw_iconst (pc := 147) (v := nI 2) F d_L_law_147 (by decide) ?_
      refine jw_iadd (pc := 148) F d_L_law_148 ?_
      rw [nI_add]
      refine jw_sld (pc := 149) F hX hbl hbA (i + 2) rfl (by omega) (by omega) d_L_law_149 ?_
      refine jw_aload_n (pc := 150) F 0 d_L_law_150 rfl rfl ?_
      refine jw_iload (pc := 151) F 4 d_L_law_151 rfl ?_
      refine jw_iconst (pc := 153) (v := nI 3) F d_L_law_153 (by decide) ?_
      refine jw_iadd (pc := 154) F d_L_law_154 ?_
      rw [nI_add]
      refine jw_sld (pc := 155) F hX hbl hbA (i + 3) rfl (by omega) (by omega) d_L_law_155 ?_
      refine jw_i2l (pc := 156) F d_L_law_156 ?_
      refine jw_bipush (pc := 157) (v := nI 32) F d_L_law_157 (by decide) ?_
      refine jw_lshl (pc := 159) F d_L_law_159 ?_
      refine jw_aload_n (pc := 160) F 0 d_L_law_160 rfl rfl ?_
      refine jw_iload (pc := 161) F 4 d_L_law_161 rfl ?_
      refine jw_iconst (pc := 163) (v := nI 4) F d_L_law_163 (by decide) ?_
      refine jw_iadd (pc := 164) F d_L_law_164 ?_
      rw [nI_add]
      refine jw_sld (pc := 165) F hX hbl hbA (i + 4) rfl (by omega) (by omega) d_L_law_165 ?_
      refine jw_i2l (pc := 166) F d_L_law_166 ?_
      refine jw_ldc2 (pc := 167) (v := 4294967295) F d_L_law_167 (jm w_479) ?_
      refine jw_land (pc := 170) F d_L_law_170 ?_
      refine jw_lor (pc := 171) F d_L_law_171 ?_
      rw [← hvv]
      refine jw_callV_Gi (pc := 172) (As := [.int (nI r), .int (xs (i + 2)), .long vv]) (rest := []) F ([]) (wX ad cB cI cL f0 f1 f2 f3 f4 f5 f6 f7 v md ln ++ wO ao cL o) (m_insert_2 l D am cB cI cL go gc gb gd gh gr gt gk gn er op sz a hQm r hr hn1 (xs (i + 2)) vv) (jw_cwV F.1.2.2.2.2 wl_good w_383 w_384 w_385 w_30 w_386 hd_M_insert ⟨by decide, by decide⟩) 0 1 rfl rfl rfl (List.append_assoc _ _ _) rfl rfl (Nat.le_of_ble_eq_true rfl) d_L_law_172 ⟨rfl, rfl⟩ ⟨by show nc + 1 ≤ 1051; omega, by show ns + 6 ≤ 11457; omega⟩ (fun r w hw => ?_)
      obtain ⟨rfl, rfl⟩ := hw
      refine jw_at (lv' := [(0, .ref b), (1, .ref (ad 0)), (2, .ref (am 0)), (3, .ref ao), (4, .int (nI i)), (5, .int 2)]) (st' := [.int 0]) (ws' := wM am cB cI cL go gc gb gd gh gr gt gk gn 2 op sz ++ wX ad cB cI cL f0 f1 f2 f3 f4 f5 f6 f7 v md ln ++ wO ao cL o) rfl rfl (by rw [List.nil_append, List.append_assoc]) ?_
      refine jw_istore (pc := 175) (lv' := [(0, .ref b), (1, .ref (ad 0)), (2, .ref (am 0)), (3, .ref ao), (4, .int (nI i)), (5, .int 2), (6, .int 0)]) F d_L_law_175 (by decide) rfl ?_
      refine jw_aload_n (pc := 177) F 2 d_L_law_177 rfl rfl ?_
      refine jw_callV_Ei (pc := 178) (As := []) (rest := []) F ([]) (wX ad cB cI cL f0 f1 f2 f3 f4 f5 f6 f7 v md ln ++ wO ao cL o) (m_thrown l D am cB cI cL go gc gb gd gh gr gt gk gn 2 op sz) (jw_cwV F.1.2.2.2.2 wl_good w_379 w_380 w_381 w_30 w_382 hd_M_thrown ⟨by decide, by decide⟩) 0 1 rfl rfl rfl (List.append_assoc _ _ _) rfl rfl (Nat.le_of_ble_eq_true rfl) d_L_law_178 ⟨rfl, rfl⟩ ⟨by show nc + 1 ≤ 1051; omega, by show ns + 6 ≤ 11457; omega⟩ ?_
      refine jw_iload (pc := 181) F 5 d_L_law_181 rfl ?_
      refine jw_icmp_eq (pc := 183) F 188 d_L_law_183 (by decide) (fun hz11 => ?_) (fun hz11 => False.elim (hz11 rfl))
      refine jw_iload (pc := 188) F 5 d_L_law_188 rfl ?_
      refine jw_if_ne (pc := 190) F 205 d_L_law_190 (by decide) (fun hz12 => ?_) (fun hz12 => False.elim (absurd hz12 (by decide)))
      refine jw_goto (pc := 205) F 857 d_L_law_205 (by decide) ?_
      refine jw_loc (lv' := [(0, .ref b), (1, .ref (ad 0)), (2, .ref (am 0)), (3, .ref ao), (4, .int (nI i))]) [0, 1, 2, 3, 4] rfl ?_
      refine jw_widen (k := nc + 1) (n := ns + 6) (by show nc + 1 ≤ nc + 1; omega) (by show ns + 6 ≤ ns + 6; omega) ?_
      exact kk a L f0 f1 f2 f3 f4 f5 f6 f7 v md ln go gc gb gd gh gr gt gk gn 2 op sz o hQ hQm
set_option maxHeartbeats 4000000 in
set_option maxRecDepth 100000 in
theorem lawc_delete {p : Program} {e : Env} {s : State} {m : MethodId} {below : List Frame} {meth : Method} {c : Code} (l : Launch) (D : va_G) (ad am : Nat → Nat) (ao : Nat) (cB cI cL : ClassId) {b LL : Nat} {xs : Nat → Int32} {Q : State → Prop} {A : Nat → Prop} (hl : l.stackTraces = false) (F : jw_F p s m #[Value.ref b] meth c D vCl (vTy cB cI cL) A 8 b_L_law RL (Cond.initialized RL :: WL) ret) (hZ : jz_Y A s) (hX : va_X b LL xs s s.heap) (hbl : b < s.heap.size) (hbA : ¬ A b) (hLL : LL ≤ 2560) (i nc ns : Nat) (hi : i + 5 ≤ LL) (hnc : nc + 1 ≤ 1051) (hns : ns + 6 ≤ 11457) (a : AS) (L : List Nat) (f0 f1 f2 f3 f4 f5 f6 f7 : Nat → Int32) (v : Nat → Int64) (md ln : Int32) (go gc gb gd gh gr gt gk : Nat → Int32) (gn : Nat → Int64) (er op sz : Int32) (o : Nat → Int64) (hQ : cx_R a L f0 f1 f2 f3 f4 f5 f6 f7 v md ln) (hQm : mx_R a go gc gb gd gh gn op) (kk : ∀ (a : AS) (L : List Nat) (f0 f1 f2 f3 f4 f5 f6 f7 : Nat → Int32) (v : Nat → Int64) (md ln : Int32) (go gc gb gd gh gr gt gk : Nat → Int32) (gn : Nat → Int64) (er op sz : Int32) (o : Nat → Int64), cx_R a L f0 f1 f2 f3 f4 f5 f6 f7 v md ln → mx_R a go gc gb gd gh gn op → jw_J p l e room_1 s m #[Value.ref b] below meth c D vCl A 8 Q (nc + 1) (ns + 6) 857 [(0, .ref b), (1, .ref (ad 0)), (2, .ref (am 0)), (3, .ref ao), (4, .int (nI i))] [] (wM am cB cI cL go gc gb gd gh gr gt gk gn er op sz ++ wX ad cB cI cL f0 f1 f2 f3 f4 f5 f6 f7 v md ln ++ wO ao cL o)) : jw_J p l e room_1 s m #[Value.ref b] below meth c D vCl A 8 Q (nc) (ns) 208 [(0, .ref b), (1, .ref (ad 0)), (2, .ref (am 0)), (3, .ref ao), (4, .int (nI i))] [] (wM am cB cI cL go gc gb gd gh gr gt gk gn er op sz ++ wX ad cB cI cL f0 f1 f2 f3 f4 f5 f6 f7 v md ln ++ wO ao cL o) := by
  have hn := hQ.1.1
  cases hr1 : a_isrep (xs (i + 1))
  · refine jw_aload_n (pc := 208) F 1 d_L_law_208 rfl rfl ?_
    refine jw_aload_n (pc := 209) F 0 d_L_law_209 rfl rfl ?_
    refine jw_iload (pc := 210) F 4 d_L_law_210 rfl ?_
    refine jw_iconst (pc := 212) (v := nI 1) F d_L_law_212 (by decide) ?_
    refine jw_iadd (pc := 213) F d_L_law_213 ?_
    rw [nI_add]
    refine jw_sld (pc := 214) F hX hbl hbA (i + 1) rfl (by omega) (by omega) d_L_law_214 ?_
    refine jw_aload_n (pc := 215) F 0 d_L_law_215 rfl rfl ?_
    refine jw_iload (pc := 216) F 4 d_L_law_216 rfl ?_
    refine jw_iconst (pc := 218) (v := nI 2) F d_L_law_218 (by decide) ?_
    refine jw_iadd (pc := 219) F d_L_law_219 ?_
    rw [nI_add]
    refine jw_sld (pc := 220) F hX hbl hbA (i + 2) rfl (by omega) (by omega) d_L_law_220 ?_
    refine jw_aload_n (pc := 221) F 3 d_L_law_221 rfl rfl ?_
    refine jw_callSW_N (pc := 222) (As := [.ref (ad 0), .int (xs (i + 1)), .int (xs (i + 2)), .ref ao]) (rest := []) F jz_okY hZ (wM am cB cI cL go gc gb gd gh gr gt gk gn er op sz) ([]) (w_delete_1 l D ad cB cI cL f0 f1 f2 f3 f4 f5 f6 f7 v md ln ao o a L hQ (xs (i + 1)) hr1 (xs (i + 2)) hl) (jw_cwSW F.1.2.2.2.2 wl_good w_243 w_244 w_28 w_245 hd_L_delete.2 ⟨by decide, by decide⟩) (by rw [List.append_nil, List.append_assoc]) rfl rfl (Nat.le_of_ble_eq_true rfl) d_L_law_222 ⟨by show nc + 1 ≤ 1051; omega, by show ns + 6 ≤ 11457; omega⟩ (fun r w hw => ?_)
    obtain ⟨rfl, rfl⟩ := hw
    refine jw_at (lv' := [(0, .ref b), (1, .ref (ad 0)), (2, .ref (am 0)), (3, .ref ao), (4, .int (nI i))]) (st' := [.int 1]) (ws' := wM am cB cI cL go gc gb gd gh gr gt gk gn er op sz ++ wX ad cB cI cL f0 f1 f2 f3 f4 f5 f6 f7 v md ln ++ wO ao cL o) rfl rfl (by rw [List.append_nil, List.append_assoc]) ?_
    refine jw_istore (pc := 225) (lv' := [(0, .ref b), (1, .ref (ad 0)), (2, .ref (am 0)), (3, .ref ao), (4, .int (nI i)), (5, .int 1)]) F d_L_law_225 (by decide) rfl ?_
    refine jw_aload_n (pc := 227) F 2 d_L_law_227 rfl rfl ?_
    refine jw_aload_n (pc := 228) F 0 d_L_law_228 rfl rfl ?_
    refine jw_iload (pc := 229) F 4 d_L_law_229 rfl ?_
    refine jw_iconst (pc := 231) (v := nI 1) F d_L_law_231 (by decide) ?_
    refine jw_iadd (pc := 232) F d_L_law_232 ?_
    rw [nI_add]
    refine jw_sld (pc := 233) F hX hbl hbA (i + 1) rfl (by omega) (by omega) d_L_law_233 ?_
    refine jw_aload_n (pc := 234) F 0 d_L_law_234 rfl rfl ?_
    refine jw_iload (pc := 235) F 4 d_L_law_235 rfl ?_
    refine jw_iconst (pc := 237) (v := nI 2) F d_L_law_237 (by decide) ?_
    refine jw_iadd (pc := 238) F d_L_law_238 ?_
    rw [nI_add]
    refine jw_sld (pc := 239) F hX hbl hbA (i + 2) rfl (by omega) (by omega) d_L_law_239 ?_
    refine jw_callV_Gi (pc := 240) (As := [.int (xs (i + 1)), .int (xs (i + 2))]) (rest := []) F ([]) (wX ad cB cI cL f0 f1 f2 f3 f4 f5 f6 f7 v md ln ++ wO ao cL o) (m_delete_1 l D am cB cI cL go gc gb gd gh gr gt gk gn er op sz a hQm (xs (i + 1)) hr1 (xs (i + 2))) (jw_cwV F.1.2.2.2.2 wl_good w_419 w_420 w_421 w_30 w_422 hd_M_delete ⟨by decide, by decide⟩) 0 1 rfl rfl rfl (List.append_assoc _ _ _) rfl rfl (Nat.le_of_ble_eq_true rfl) d_L_law_240 ⟨rfl, rfl⟩ ⟨by show nc + 1 ≤ 1051; omega, by show ns + 6 ≤ 11457; omega⟩ (fun r w hw => ?_)
    obtain ⟨rfl, rfl⟩ := hw
    refine jw_at (lv' := [(0, .ref b), (1, .ref (ad 0)), (2, .ref (am 0)), (3, .ref ao), (4, .int (nI i)), (5, .int 1)]) (st' := [.int 0]) (ws' := wM am cB cI cL go gc gb gd gh gr gt gk gn 1 op sz ++ wX ad cB cI cL f0 f1 f2 f3 f4 f5 f6 f7 v md ln ++ wO ao cL o) rfl rfl (by rw [List.nil_append, List.append_assoc]) ?_
    refine jw_istore (pc := 243) (lv' := [(0, .ref b), (1, .ref (ad 0)), (2, .ref (am 0)), (3, .ref ao), (4, .int (nI i)), (5, .int 1), (6, .int 0)]) F d_L_law_243 (by decide) rfl ?_
    refine jw_aload_n (pc := 245) F 2 d_L_law_245 rfl rfl ?_
    refine jw_callV_Ei (pc := 246) (As := []) (rest := []) F ([]) (wX ad cB cI cL f0 f1 f2 f3 f4 f5 f6 f7 v md ln ++ wO ao cL o) (m_thrown l D am cB cI cL go gc gb gd gh gr gt gk gn 1 op sz) (jw_cwV F.1.2.2.2.2 wl_good w_379 w_380 w_381 w_30 w_382 hd_M_thrown ⟨by decide, by decide⟩) 0 1 rfl rfl rfl (List.append_assoc _ _ _) rfl rfl (Nat.le_of_ble_eq_true rfl) d_L_law_246 ⟨rfl, rfl⟩ ⟨by show nc + 1 ≤ 1051; omega, by show ns + 6 ≤ 11457; omega⟩ ?_
    refine jw_iload (pc := 249) F 5 d_L_law_249 rfl ?_
    refine jw_icmp_eq (pc := 251) F 256 d_L_law_251 (by decide) (fun hz1 => ?_) (fun hz1 => False.elim (hz1 rfl))
    refine jw_iload (pc := 256) F 5 d_L_law_256 rfl ?_
    refine jw_if_ne (pc := 258) F 273 d_L_law_258 (by decide) (fun hz2 => ?_) (fun hz2 => False.elim (absurd hz2 (by decide)))
    refine jw_goto (pc := 273) F 857 d_L_law_273 (by decide) ?_
    refine jw_loc (lv' := [(0, .ref b), (1, .ref (ad 0)), (2, .ref (am 0)), (3, .ref ao), (4, .int (nI i))]) [0, 1, 2, 3, 4] rfl ?_
    refine jw_widen (k := nc + 1) (n := ns + 6) (by show nc + 1 ≤ nc + 1; omega) (by show ns + 6 ≤ ns + 6; omega) ?_
    exact kk a L f0 f1 f2 f3 f4 f5 f6 f7 v md ln go gc gb gd gh gr gt gk gn 1 op sz o hQ hQm
  · obtain ⟨r, hr, hr2⟩ := a_isrep_t hr1
    rcases Nat.lt_or_ge (a_n a) 160 with hn1 | hn2
    · cases hh : a_haseB a r (xs (i + 2))
      · refine jw_aload_n (pc := 208) F 1 d_L_law_208 rfl rfl ?_
        refine jw_aload_n (pc := 209) F 0 d_L_law_209 rfl rfl ?_
        refine jw_iload (pc := 210) F 4 d_L_law_210 rfl ?_
        refine jw_iconst (pc := 212) (v := nI 1) F d_L_law_212 (by decide) ?_
        refine jw_iadd (pc := 213) F d_L_law_213 ?_
        rw [nI_add]
        refine jw_sld (pc := 214) F hX hbl hbA (i + 1) rfl (by omega) (by omega) d_L_law_214 ?_
        rw [hr2]
        refine jw_aload_n (pc := 215) F 0 d_L_law_215 rfl rfl ?_
        refine jw_iload (pc := 216) F 4 d_L_law_216 rfl ?_
        refine jw_iconst (pc := 218) (v := nI 2) F d_L_law_218 (by decide) ?_
        refine jw_iadd (pc := 219) F d_L_law_219 ?_
        rw [nI_add]
        refine jw_sld (pc := 220) F hX hbl hbA (i + 2) rfl (by omega) (by omega) d_L_law_220 ?_
        refine jw_aload_n (pc := 221) F 3 d_L_law_221 rfl rfl ?_
        refine jw_callSW_N (pc := 222) (As := [.ref (ad 0), .int (nI r), .int (xs (i + 2)), .ref ao]) (rest := []) F jz_okY hZ (wM am cB cI cL go gc gb gd gh gr gt gk gn er op sz) ([]) (w_delete_3 l D ad cB cI cL f0 f1 f2 f3 f4 f5 f6 f7 v md ln ao o a L hQ r hr hn1 (xs (i + 2)) hh hl) (jw_cwSW F.1.2.2.2.2 wl_good w_243 w_244 w_28 w_245 hd_L_delete.2 ⟨by decide, by decide⟩) (by rw [List.append_nil, List.append_assoc]) rfl rfl (Nat.le_of_ble_eq_true rfl) d_L_law_222 ⟨by show nc + 1 ≤ 1051; omega, by show ns + 6 ≤ 11457; omega⟩ (fun r w hw => ?_)
        obtain ⟨rfl, rfl⟩ := hw
        refine jw_at (lv' := [(0, .ref b), (1, .ref (ad 0)), (2, .ref (am 0)), (3, .ref ao), (4, .int (nI i))]) (st' := [.int 3]) (ws' := wM am cB cI cL go gc gb gd gh gr gt gk gn er op sz ++ wX ad cB cI cL f0 f1 f2 f3 f4 f5 f6 f7 v md ln ++ wO ao cL o) rfl rfl (by rw [List.append_nil, List.append_assoc]) ?_
        refine jw_istore (pc := 225) (lv' := [(0, .ref b), (1, .ref (ad 0)), (2, .ref (am 0)), (3, .ref ao), (4, .int (nI i)), (5, .int 3)]) F d_L_law_225 (by decide) rfl ?_
        refine jw_aload_n (pc := 227) F 2 d_L_law_227 rfl rfl ?_
        refine jw_aload_n (pc := 228) F 0 d_L_law_228 rfl rfl ?_
        refine jw_iload (pc := 229) F 4 d_L_law_229 rfl ?_
        refine jw_iconst (pc := 231) (v := nI 1) F d_L_law_231 (by decide) ?_
        refine jw_iadd (pc := 232) F d_L_law_232 ?_
        rw [nI_add]
        refine jw_sld (pc := 233) F hX hbl hbA (i + 1) rfl (by omega) (by omega) d_L_law_233 ?_
        rw [hr2]
        refine jw_aload_n (pc := 234) F 0 d_L_law_234 rfl rfl ?_
        refine jw_iload (pc := 235) F 4 d_L_law_235 rfl ?_
        refine jw_iconst (pc := 237) (v := nI 2) F d_L_law_237 (by decide) ?_
        refine jw_iadd (pc := 238) F d_L_law_238 ?_
        rw [nI_add]
        refine jw_sld (pc := 239) F hX hbl hbA (i + 2) rfl (by omega) (by omega) d_L_law_239 ?_
        refine jw_callV_Gi (pc := 240) (As := [.int (nI r), .int (xs (i + 2))]) (rest := []) F ([]) (wX ad cB cI cL f0 f1 f2 f3 f4 f5 f6 f7 v md ln ++ wO ao cL o) (m_delete_3 l D am cB cI cL go gc gb gd gh gr gt gk gn er op sz a hQm r hr hn1 (xs (i + 2)) hh) (jw_cwV F.1.2.2.2.2 wl_good w_419 w_420 w_421 w_30 w_422 hd_M_delete ⟨by decide, by decide⟩) 0 1 rfl rfl rfl (List.append_assoc _ _ _) rfl rfl (Nat.le_of_ble_eq_true rfl) d_L_law_240 ⟨rfl, rfl⟩ ⟨by show nc + 1 ≤ 1051; omega, by show ns + 6 ≤ 11457; omega⟩ (fun r w hw => ?_)
        obtain ⟨rfl, rfl⟩ := hw
        refine jw_at (lv' := [(0, .ref b), (1, .ref (ad 0)), (2, .ref (am 0)), (3, .ref ao), (4, .int (nI i)), (5, .int 3)]) (st' := [.int 0]) (ws' := wM am cB cI cL go gc gb gd gh gr gt gk gn 3 op sz ++ wX ad cB cI cL f0 f1 f2 f3 f4 f5 f6 f7 v md ln ++ wO ao cL o) rfl rfl (by rw [List.nil_append, List.append_assoc]) ?_
        refine jw_istore (pc := 243) (lv' := [(0, .ref b), (1, .ref (ad 0)), (2, .ref (am 0)), (3, .ref ao), (4, .int (nI i)), (5, .int 3), (6, .int 0)]) F d_L_law_243 (by decide) rfl ?_
        refine jw_aload_n (pc := 245) F 2 d_L_law_245 rfl rfl ?_
        refine jw_callV_Ei (pc := 246) (As := []) (rest := []) F ([]) (wX ad cB cI cL f0 f1 f2 f3 f4 f5 f6 f7 v md ln ++ wO ao cL o) (m_thrown l D am cB cI cL go gc gb gd gh gr gt gk gn 3 op sz) (jw_cwV F.1.2.2.2.2 wl_good w_379 w_380 w_381 w_30 w_382 hd_M_thrown ⟨by decide, by decide⟩) 0 1 rfl rfl rfl (List.append_assoc _ _ _) rfl rfl (Nat.le_of_ble_eq_true rfl) d_L_law_246 ⟨rfl, rfl⟩ ⟨by show nc + 1 ≤ 1051; omega, by show ns + 6 ≤ 11457; omega⟩ ?_
        refine jw_iload (pc := 249) F 5 d_L_law_249 rfl ?_
        refine jw_icmp_eq (pc := 251) F 256 d_L_law_251 (by decide) (fun hz3 => ?_) (fun hz3 => False.elim (hz3 rfl))
        refine jw_iload (pc := 256) F 5 d_L_law_256 rfl ?_
        refine jw_if_ne (pc := 258) F 273 d_L_law_258 (by decide) (fun hz4 => ?_) (fun hz4 => False.elim (absurd hz4 (by decide)))
        refine jw_goto (pc := 273) F 857 d_L_law_273 (by decide) ?_
        refine jw_loc (lv' := [(0, .ref b), (1, .ref (ad 0)), (2, .ref (am 0)), (3, .ref ao), (4, .int (nI i))]) [0, 1, 2, 3, 4] rfl ?_
        refine jw_widen (k := nc + 1) (n := ns + 6) (by show nc + 1 ≤ nc + 1; omega) (by show ns + 6 ≤ ns + 6; omega) ?_
        exact kk a L f0 f1 f2 f3 f4 f5 f6 f7 v md ln go gc gb gd gh gr gt gk gn 3 op sz o hQ hQm
      · refine jw_aload_n (pc := 208) F 1 d_L_law_208 rfl rfl ?_
        refine jw_aload_n (pc := 209) F 0 d_L_law_209 rfl rfl ?_
        refine jw_iload (pc := 210) F 4 d_L_law_210 rfl ?_
        refine jw_iconst (pc := 212) (v := nI 1) F d_L_law_212 (by decide) ?_
        refine jw_iadd (pc := 213) F d_L_law_213 ?_
        rw [nI_add]
        refine jw_sld (pc := 214) F hX hbl hbA (i + 1) rfl (by omega) (by omega) d_L_law_214 ?_
        rw [hr2]
        refine jw_aload_n (pc := 215) F 0 d_L_law_215 rfl rfl ?_
        refine jw_iload (pc := 216) F 4 d_L_law_216 rfl ?_
        refine jw_iconst (pc := 218) (v := nI 2) F d_L_law_218 (by decide) ?_
        refine jw_iadd (pc := 219) F d_L_law_219 ?_
        rw [nI_add]
        refine jw_sld (pc := 220) F hX hbl hbA (i + 2) rfl (by omega) (by omega) d_L_law_220 ?_
        refine jw_aload_n (pc := 221) F 3 d_L_law_221 rfl rfl ?_
        refine jw_callSW_M (pc := 222) (As := [.ref (ad 0), .int (nI r), .int (xs (i + 2)), .ref ao]) (rest := []) F (wM am cB cI cL go gc gb gd gh gr gt gk gn er op sz) ([]) (w_delete_0 l D ad cB cI cL f0 f1 f2 f3 f4 f5 f6 f7 v md ln ao o a L hQ r hr hn1 (xs (i + 2)) hh) (jw_cwSW F.1.2.2.2.2 wl_good w_243 w_244 w_28 w_245 hd_L_delete.2 ⟨by decide, by decide⟩) (by rw [List.append_nil, List.append_assoc]) rfl rfl (Nat.le_of_ble_eq_true rfl) d_L_law_222 ⟨by show nc + 0 ≤ 1051; omega, by show ns + 0 ≤ 11457; omega⟩ (fun r w hw => ?_)
        obtain ⟨rfl, g0, g1, g2, g3, g4, g5, g6, g7, gv, gm, gl, rfl, hQ2⟩ := hw
        refine jw_at (lv' := [(0, .ref b), (1, .ref (ad 0)), (2, .ref (am 0)), (3, .ref ao), (4, .int (nI i))]) (st' := [.int 0]) (ws' := wM am cB cI cL go gc gb gd gh gr gt gk gn er op sz ++ wX ad cB cI cL g0 g1 g2 g3 g4 g5 g6 g7 gv gm gl ++ wO ao cL (vp_updL o 0 (nI (a_n a)).toInt64)) rfl rfl (by rw [List.append_nil, List.append_assoc]) ?_
        refine jw_istore (pc := 225) (lv' := [(0, .ref b), (1, .ref (ad 0)), (2, .ref (am 0)), (3, .ref ao), (4, .int (nI i)), (5, .int 0)]) F d_L_law_225 (by decide) rfl ?_
        refine jw_aload_n (pc := 227) F 2 d_L_law_227 rfl rfl ?_
        refine jw_aload_n (pc := 228) F 0 d_L_law_228 rfl rfl ?_
        refine jw_iload (pc := 229) F 4 d_L_law_229 rfl ?_
        refine jw_iconst (pc := 231) (v := nI 1) F d_L_law_231 (by decide) ?_
        refine jw_iadd (pc := 232) F d_L_law_232 ?_
        rw [nI_add]
        refine jw_sld (pc := 233) F hX hbl hbA (i + 1) rfl (by omega) (by omega) d_L_law_233 ?_
        rw [hr2]
        refine jw_aload_n (pc := 234) F 0 d_L_law_234 rfl rfl ?_
        refine jw_iload (pc := 235) F 4 d_L_law_235 rfl ?_
        refine jw_iconst (pc := 237) (v := nI 2) F d_L_law_237 (by decide) ?_
        refine jw_iadd (pc := 238) F d_L_law_238 ?_
        rw [nI_add]
        refine jw_sld (pc := 239) F hX hbl hbA (i + 2) rfl (by omega) (by omega) d_L_law_239 ?_
        refine jw_callV_Gi (pc := 240) (As := [.int (nI r), .int (xs (i + 2))]) (rest := []) F ([]) (wX ad cB cI cL g0 g1 g2 g3 g4 g5 g6 g7 gv gm gl ++ wO ao cL (vp_updL o 0 (nI (a_n a)).toInt64)) (m_delete_0 l D am cB cI cL go gc gb gd gh gr gt gk gn er op sz a hQm r hr hn1 (xs (i + 2)) hh) (jw_cwV F.1.2.2.2.2 wl_good w_419 w_420 w_421 w_30 w_422 hd_M_delete ⟨by decide, by decide⟩) 0 1 rfl rfl rfl (List.append_assoc _ _ _) rfl rfl (Nat.le_of_ble_eq_true rfl) d_L_law_240 ⟨rfl, rfl⟩ ⟨by show nc + 0 ≤ 1051; omega, by show ns + 0 ≤ 11457; omega⟩ (fun r w hw => ?_)
        obtain ⟨rfl, ko, kc, kb, kd, kh, kn, ko2, rfl, hQm2⟩ := hw
        refine jw_at (lv' := [(0, .ref b), (1, .ref (ad 0)), (2, .ref (am 0)), (3, .ref ao), (4, .int (nI i)), (5, .int 0)]) (st' := [.int (nI (a_n a))]) (ws' := wM am cB cI cL ko kc kb kd kh gr gt gk kn 0 ko2 sz ++ wX ad cB cI cL g0 g1 g2 g3 g4 g5 g6 g7 gv gm gl ++ wO ao cL (vp_updL o 0 (nI (a_n a)).toInt64)) rfl rfl (by rw [List.nil_append, List.append_assoc]) ?_
        refine jw_istore (pc := 243) (lv' := [(0, .ref b), (1, .ref (ad 0)), (2, .ref (am 0)), (3, .ref ao), (4, .int (nI i)), (5, .int 0), (6, .int (nI (a_n a)))]) F d_L_law_243 (by decide) rfl ?_
        refine jw_aload_n (pc := 245) F 2 d_L_law_245 rfl rfl ?_
        refine jw_callV_Ei (pc := 246) (As := []) (rest := []) F ([]) (wX ad cB cI cL g0 g1 g2 g3 g4 g5 g6 g7 gv gm gl ++ wO ao cL (vp_updL o 0 (nI (a_n a)).toInt64)) (m_thrown l D am cB cI cL ko kc kb kd kh gr gt gk kn 0 ko2 sz) (jw_cwV F.1.2.2.2.2 wl_good w_379 w_380 w_381 w_30 w_382 hd_M_thrown ⟨by decide, by decide⟩) 0 1 rfl rfl rfl (List.append_assoc _ _ _) rfl rfl (Nat.le_of_ble_eq_true rfl) d_L_law_246 ⟨rfl, rfl⟩ ⟨by show nc + 0 ≤ 1051; omega, by show ns + 0 ≤ 11457; omega⟩ ?_
        refine jw_iload (pc := 249) F 5 d_L_law_249 rfl ?_
        refine jw_icmp_eq (pc := 251) F 256 d_L_law_251 (by decide) (fun hz5 => ?_) (fun hz5 => False.elim (hz5 rfl))
        refine jw_iload (pc := 256) F 5 d_L_law_256 rfl ?_
        refine jw_if_ne (pc := 258) F 273 d_L_law_258 (by decide) (fun hz6 => False.elim (hz6 rfl)) (fun hz6 => ?_)
        refine jw_aload_n (pc := 261) F 3 d_L_law_261 rfl rfl ?_
        refine jw_iconst (pc := 262) (v := nI 0) F d_L_law_262 (by decide) ?_
        refine jw_laldN (pc := 263) F 20 2 rfl rfl 0 rfl (by omega) (by decide) d_L_law_263 ?_
        refine jw_iload (pc := 264) F 6 d_L_law_264 rfl ?_
        refine jw_i2l (pc := 266) F d_L_law_266 ?_
        refine jw_lcmp (pc := 267) F d_L_law_267 ?_
        refine jw_if_eq (pc := 268) F 273 d_L_law_268 (by decide) (fun hz7 => ?_) (fun hz7 => False.elim (hz7 ((lg_cmp_eq _ _).mpr (pk_uLs))))
        refine jw_goto (pc := 273) F 857 d_L_law_273 (by decide) ?_
        refine jw_loc (lv' := [(0, .ref b), (1, .ref (ad 0)), (2, .ref (am 0)), (3, .ref ao), (4, .int (nI i))]) [0, 1, 2, 3, 4] rfl ?_
        refine jw_widen (k := nc + 1) (n := ns + 6) (by show nc + 0 ≤ nc + 1; omega) (by show ns + 0 ≤ ns + 6; omega) ?_
        exact kk (ab_new a r (xs (i + 2)) true 0) L g0 g1 g2 g3 g4 g5 g6 g7 gv gm gl ko kc kb kd kh gr gt gk kn 0 ko2 sz (vp_updL o 0 (nI (a_n a)).toInt64) hQ2 hQm2
    · have hn1 : a_n a = 160 := by omega
      refine jw_aload_n (pc := 208) F 1 d_L_law_208 rfl rfl ?_
      refine jw_aload_n (pc := 209) F 0 d_L_law_209 rfl rfl ?_
      refine jw_iload (pc := 210) F 4 d_L_law_210 rfl ?_
      refine jw_iconst (pc := 212) (v := nI 1) F d_L_law_212 (by decide) ?_
      refine jw_iadd (pc := 213) F d_L_law_213 ?_
      rw [nI_add]
      refine jw_sld (pc := 214) F hX hbl hbA (i + 1) rfl (by omega) (by omega) d_L_law_214 ?_
      rw [hr2]
      refine jw_aload_n (pc := 215) F 0 d_L_law_215 rfl rfl ?_
      refine jw_iload (pc := 216) F 4 d_L_law_216 rfl ?_
      refine jw_iconst (pc := 218) (v := nI 2) F d_L_law_218 (by decide) ?_
      refine jw_iadd (pc := 219) F d_L_law_219 ?_
      rw [nI_add]
      refine jw_sld (pc := 220) F hX hbl hbA (i + 2) rfl (by omega) (by omega) d_L_law_220 ?_
      refine jw_aload_n (pc := 221) F 3 d_L_law_221 rfl rfl ?_
      refine jw_callSW_N (pc := 222) (As := [.ref (ad 0), .int (nI r), .int (xs (i + 2)), .ref ao]) (rest := []) F jz_okY hZ (wM am cB cI cL go gc gb gd gh gr gt gk gn er op sz) ([]) (w_delete_2 l D ad cB cI cL f0 f1 f2 f3 f4 f5 f6 f7 v md ln ao o a L hQ r hr hn1 (xs (i + 2)) hl) (jw_cwSW F.1.2.2.2.2 wl_good w_243 w_244 w_28 w_245 hd_L_delete.2 ⟨by decide, by decide⟩) (by rw [List.append_nil, List.append_assoc]) rfl rfl (Nat.le_of_ble_eq_true rfl) d_L_law_222 ⟨by show nc + 1 ≤ 1051; omega, by show ns + 6 ≤ 11457; omega⟩ (fun r w hw => ?_)
      obtain ⟨rfl, rfl⟩ := hw
      refine jw_at (lv' := [(0, .ref b), (1, .ref (ad 0)), (2, .ref (am 0)), (3, .ref ao), (4, .int (nI i))]) (st' := [.int 2]) (ws' := wM am cB cI cL go gc gb gd gh gr gt gk gn er op sz ++ wX ad cB cI cL f0 f1 f2 f3 f4 f5 f6 f7 v md ln ++ wO ao cL o) rfl rfl (by rw [List.append_nil, List.append_assoc]) ?_
      refine jw_istore (pc := 225) (lv' := [(0, .ref b), (1, .ref (ad 0)), (2, .ref (am 0)), (3, .ref ao), (4, .int (nI i)), (5, .int 2)]) F d_L_law_225 (by decide) rfl ?_
      refine jw_aload_n (pc := 227) F 2 d_L_law_227 rfl rfl ?_
      refine jw_aload_n (pc := 228) F 0 d_L_law_228 rfl rfl ?_
      refine jw_iload (pc := 229) F 4 d_L_law_229 rfl ?_
      refine jw_iconst (pc := 231) (v := nI 1) F d_L_law_231 (by decide) ?_
      refine jw_iadd (pc := 232) F d_L_law_232 ?_
      rw [nI_add]
      refine jw_sld (pc := 233) F hX hbl hbA (i + 1) rfl (by omega) (by omega) d_L_law_233 ?_
      rw [hr2]
      refine jw_aload_n (pc := 234) F 0 d_L_law_234 rfl rfl ?_
      refine jw_iload (pc := 235) F 4 d_L_law_235 rfl ?_
      refine jw_iconst (pc := 237) (v := nI 2) F d_L_law_237 (by decide) ?_
      refine jw_iadd (pc := 238) F d_L_law_238 ?_
      rw [nI_add]
      refine jw_sld (pc := 239) F hX hbl hbA (i + 2) rfl (by omega) (by omega) d_L_law_239 ?_
      refine jw_callV_Gi (pc := 240) (As := [.int (nI r), .int (xs (i + 2))]) (rest := []) F ([]) (wX ad cB cI cL f0 f1 f2 f3 f4 f5 f6 f7 v md ln ++ wO ao cL o) (m_delete_2 l D am cB cI cL go gc gb gd gh gr gt gk gn er op sz a hQm r hr hn1 (xs (i + 2))) (jw_cwV F.1.2.2.2.2 wl_good w_419 w_420 w_421 w_30 w_422 hd_M_delete ⟨by decide, by decide⟩) 0 1 rfl rfl rfl (List.append_assoc _ _ _) rfl rfl (Nat.le_of_ble_eq_true rfl) d_L_law_240 ⟨rfl, rfl⟩ ⟨by show nc + 1 ≤ 1051; omega, by show ns + 6 ≤ 11457; omega⟩ (fun r w hw => ?_)
      obtain ⟨rfl, rfl⟩ := hw
      refine jw_at (lv' := [(0, .ref b), (1, .ref (ad 0)), (2, .ref (am 0)), (3, .ref ao), (4, .int (nI i)), (5, .int 2)]) (st' := [.int 0]) (ws' := wM am cB cI cL go gc gb gd gh gr gt gk gn 2 op sz ++ wX ad cB cI cL f0 f1 f2 f3 f4 f5 f6 f7 v md ln ++ wO ao cL o) rfl rfl (by rw [List.nil_append, List.append_assoc]) ?_
      refine jw_istore (pc := 243) (lv' := [(0, .ref b), (1, .ref (ad 0)), (2, .ref (am 0)), (3, .ref ao), (4, .int (nI i)), (5, .int 2), (6, .int 0)]) F d_L_law_243 (by decide) rfl ?_
      refine jw_aload_n (pc := 245) F 2 d_L_law_245 rfl rfl ?_
      refine jw_callV_Ei (pc := 246) (As := []) (rest := []) F ([]) (wX ad cB cI cL f0 f1 f2 f3 f4 f5 f6 f7 v md ln ++ wO ao cL o) (m_thrown l D am cB cI cL go gc gb gd gh gr gt gk gn 2 op sz) (jw_cwV F.1.2.2.2.2 wl_good w_379 w_380 w_381 w_30 w_382 hd_M_thrown ⟨by decide, by decide⟩) 0 1 rfl rfl rfl (List.append_assoc _ _ _) rfl rfl (Nat.le_of_ble_eq_true rfl) d_L_law_246 ⟨rfl, rfl⟩ ⟨by show nc + 1 ≤ 1051; omega, by show ns + 6 ≤ 11457; omega⟩ ?_
      refine jw_iload (pc := 249) F 5 d_L_law_249 rfl ?_
      refine jw_icmp_eq (pc := 251) F 256 d_L_law_251 (by decide) (fun hz8 => ?_) (fun hz8 => False.elim (hz8 rfl))
      refine jw_iload (pc := 256) F 5 d_L_law_256 rfl ?_
      refine jw_if_ne (pc := 258) F 273 d_L_law_258 (by decide) (fun hz9 => ?_) (fun hz9 => False.elim (absurd hz9 (by decide)))
      refine jw_goto (pc := 273) F 857 d_L_law_273 (by decide) ?_
      refine jw_loc (lv' := [(0, .ref b), (1, .ref (ad 0)), (2, .ref (am 0)), (3, .ref ao), (4, .int (nI i))]) [0, 1, 2, 3, 4] rfl ?_
      refine jw_widen (k := nc + 1) (n := ns + 6) (by show nc + 1 ≤ nc + 1; omega) (by show ns + 6 ≤ ns + 6; omega) ?_
      exact kk a L f0 f1 f2 f3 f4 f5 f6 f7 v md ln go gc gb gd gh gr gt gk gn 2 op sz o hQ hQm
