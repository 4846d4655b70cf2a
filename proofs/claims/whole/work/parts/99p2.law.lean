set_option maxHeartbeats 1000000 in
set_option maxRecDepth 100000 in
theorem lc_28 (l : Launch) (G : az_Gh) (F : az_Fn) (bc bs i : Nat) (sh : List az_Sh) (sg : Nat → Nat → Int32) (la : Nat → Nat → Int64) (σ : SGM) (kp tr : Option Nat) (hL : (az_ex G 1003).1 < 2 ^ 31) (hi : i + 6 ≤ (az_ex G 1003).1) (hI : LI sh sg la σ kp tr bc bs) (back : ∀ (sh : List az_Sh) (sg : Nat → Nat → Int32) (la : Nat → Nat → Int64) (σ : SGM) (kp tr : Option Nat) (bc bs : Nat), LI sh sg la σ kp tr bc bs → AW l G mL_law 2048 F bc bs 1791 [some (.ref 1003), some (.ref 0), some (.ref 60), some (.int (nI i))] [] (sh, sg, la)) : AW l G mL_law 2048 F bc bs 1127 [some (.ref 1003), some (.ref 0), some (.ref 60), some (.int (nI i))] [] (sh, sg, la) := by
  obtain ⟨hX, hS, hK, hR, hb⟩ := hI
  refine A_aload_n dL_law_1127 rfl rfl ?_
  refine A_aload_n dL_law_1128 rfl rfl ?_
  refine A_iload_n dL_law_1129 rfl rfl ?_
  refine A_iconst (v := 1) dL_law_1130 (by decide) ?_
  refine A_iadd dL_law_1131 ?_
  refine A_eald (k := 1003) (i := i + 1) dL_law_1132 (by decide) (by decide) (by omega) hL (nI_add i 1) ?_
  refine A_aload_n dL_law_1133 rfl rfl ?_
  refine A_iload_n dL_law_1134 rfl rfl ?_
  refine A_iconst (v := 2) dL_law_1135 (by decide) ?_
  refine A_iadd dL_law_1136 ?_
  refine A_eald (k := 1003) (i := i + 2) dL_law_1137 (by decide) (by decide) (by omega) hL (nI_add i 2) ?_
  refine A_callV (n := 0) dL_law_1138 kvX7_airs mlL_134 rfl (az_rc_obj clX7 (hX 0 _ rfl)) (x_airs l G 2000 sh sg la (sg, la) σ ((az_ex G 1003).2 (i + 1)) ((az_ex G 1003).2 (i + 2)) hX hK) (by decide) (Nat.le_refl _) (Nat.le_refl _) rfl (Nat.le_of_ble_eq_true rfl) (fun r S1 hp => ?_)
  obtain ⟨rfl, sg1, la1, rfl, hK1⟩ := hp
  show AW l G mL_law 2048 F bc bs 1141 [some (.ref 1003), some (.ref 0), some (.ref 60), some (.int (nI i))] [.int (q_airs σ ((az_ex G 1003).2 (i + 1)) ((az_ex G 1003).2 (i + 2))).1] (sh, sg1, la1)
  have hR1 := hR.mv hK1
  refine A_aload_n dL_law_1141 rfl rfl ?_
  refine A_aload_n dL_law_1142 rfl rfl ?_
  refine A_iload_n dL_law_1143 rfl rfl ?_
  refine A_iconst (v := 1) dL_law_1144 (by decide) ?_
  refine A_iadd dL_law_1145 ?_
  refine A_eald (k := 1003) (i := i + 1) dL_law_1146 (by decide) (by decide) (by omega) hL (nI_add i 1) ?_
  refine A_aload_n dL_law_1147 rfl rfl ?_
  refine A_iload_n dL_law_1148 rfl rfl ?_
  refine A_iconst (v := 2) dL_law_1149 (by decide) ?_
  refine A_iadd dL_law_1150 ?_
  refine A_eald (k := 1003) (i := i + 2) dL_law_1151 (by decide) (by decide) (by omega) hL (nI_add i 2) ?_
  refine A_callV (n := 0) dL_law_1152 kvX8_airs mlL_137 rfl (az_rc_obj clX8 (hS.1 0 _ rfl)) (y_airs l G 2000 sh sg1 la1 (sg1, la1) σ kp tr ((az_ex G 1003).2 (i + 1)) ((az_ex G 1003).2 (i + 2)) hS.1 hR1 hK.wf) (by decide) (Nat.le_refl _) (Nat.le_refl _) rfl (Nat.le_of_ble_eq_true rfl) (fun r S1 hp => ?_)
  obtain ⟨rfl, sg2, la2, rfl, hR2⟩ := hp
  show AW l G mL_law 2048 F bc bs 1155 [some (.ref 1003), some (.ref 0), some (.ref 60), some (.int (nI i))] [.int (q_airs σ ((az_ex G 1003).2 (i + 1)) ((az_ex G 1003).2 (i + 2))).1, .int (q_airs σ ((az_ex G 1003).2 (i + 1)) ((az_ex G 1003).2 (i + 2))).1] (sh, sg2, la2)
  refine A_icmp_eq (tgt := 1791) dL_law_1155 rfl (fun _ => ?_) (fun h => absurd rfl h)
  exact back sh sg2 la2 _ _ _ bc bs (LI_go hX hS hK1 hR2 hb)
set_option maxHeartbeats 1000000 in
set_option maxRecDepth 100000 in
theorem lc_29 (l : Launch) (G : az_Gh) (F : az_Fn) (bc bs i : Nat) (sh : List az_Sh) (sg : Nat → Nat → Int32) (la : Nat → Nat → Int64) (σ : SGM) (kp tr : Option Nat) (hL : (az_ex G 1003).1 < 2 ^ 31) (hi : i + 6 ≤ (az_ex G 1003).1) (hI : LI sh sg la σ kp tr bc bs) (back : ∀ (sh : List az_Sh) (sg : Nat → Nat → Int32) (la : Nat → Nat → Int64) (σ : SGM) (kp tr : Option Nat) (bc bs : Nat), LI sh sg la σ kp tr bc bs → AW l G mL_law 2048 F bc bs 1791 [some (.ref 1003), some (.ref 0), some (.ref 60), some (.int (nI i))] [] (sh, sg, la)) : AW l G mL_law 2048 F bc bs 1160 [some (.ref 1003), some (.ref 0), some (.ref 60), some (.int (nI i))] [] (sh, sg, la) := by
  obtain ⟨hX, hS, hK, hR, hb⟩ := hI
  refine A_aload_n dL_law_1160 rfl rfl ?_
  refine A_aload_n dL_law_1161 rfl rfl ?_
  refine A_iload_n dL_law_1162 rfl rfl ?_
  refine A_iconst (v := 1) dL_law_1163 (by decide) ?_
  refine A_iadd dL_law_1164 ?_
  refine A_eald (k := 1003) (i := i + 1) dL_law_1165 (by decide) (by decide) (by omega) hL (nI_add i 1) ?_
  refine A_aload_n dL_law_1166 rfl rfl ?_
  refine A_iload_n dL_law_1167 rfl rfl ?_
  refine A_iconst (v := 2) dL_law_1168 (by decide) ?_
  refine A_iadd dL_law_1169 ?_
  refine A_eald (k := 1003) (i := i + 2) dL_law_1170 (by decide) (by decide) (by omega) hL (nI_add i 2) ?_
  refine A_callV (n := 0) dL_law_1171 kvX7_clash mlL_138 rfl (az_rc_obj clX7 (hX 0 _ rfl)) (x_clash l G 2000 sh sg la (sg, la) σ ((az_ex G 1003).2 (i + 1)) ((az_ex G 1003).2 (i + 2)) hX hK) (by decide) (Nat.le_refl _) (Nat.le_refl _) rfl (Nat.le_of_ble_eq_true rfl) (fun r S1 hp => ?_)
  obtain ⟨rfl, sg1, la1, rfl, hK1⟩ := hp
  show AW l G mL_law 2048 F bc bs 1174 [some (.ref 1003), some (.ref 0), some (.ref 60), some (.int (nI i))] [.int (q_clash σ ((az_ex G 1003).2 (i + 1)) ((az_ex G 1003).2 (i + 2))).1] (sh, sg1, la1)
  have hR1 := hR.mv hK1
  refine A_aload_n dL_law_1174 rfl rfl ?_
  refine A_aload_n dL_law_1175 rfl rfl ?_
  refine A_iload_n dL_law_1176 rfl rfl ?_
  refine A_iconst (v := 1) dL_law_1177 (by decide) ?_
  refine A_iadd dL_law_1178 ?_
  refine A_eald (k := 1003) (i := i + 1) dL_law_1179 (by decide) (by decide) (by omega) hL (nI_add i 1) ?_
  refine A_aload_n dL_law_1180 rfl rfl ?_
  refine A_iload_n dL_law_1181 rfl rfl ?_
  refine A_iconst (v := 2) dL_law_1182 (by decide) ?_
  refine A_iadd dL_law_1183 ?_
  refine A_eald (k := 1003) (i := i + 2) dL_law_1184 (by decide) (by decide) (by omega) hL (nI_add i 2) ?_
  refine A_callV (n := 0) dL_law_1185 kvX8_clash mlL_141 rfl (az_rc_obj clX8 (hS.1 0 _ rfl)) (y_clash l G 2000 sh sg1 la1 (sg1, la1) σ kp tr ((az_ex G 1003).2 (i + 1)) ((az_ex G 1003).2 (i + 2)) hS.1 hR1 hK.wf) (by decide) (Nat.le_refl _) (Nat.le_refl _) rfl (Nat.le_of_ble_eq_true rfl) (fun r S1 hp => ?_)
  obtain ⟨rfl, sg2, la2, rfl, hR2⟩ := hp
  show AW l G mL_law 2048 F bc bs 1188 [some (.ref 1003), some (.ref 0), some (.ref 60), some (.int (nI i))] [.int (q_clash σ ((az_ex G 1003).2 (i + 1)) ((az_ex G 1003).2 (i + 2))).1, .int (q_clash σ ((az_ex G 1003).2 (i + 1)) ((az_ex G 1003).2 (i + 2))).1] (sh, sg2, la2)
  refine A_icmp_eq (tgt := 1791) dL_law_1188 rfl (fun _ => ?_) (fun h => absurd rfl h)
  exact back sh sg2 la2 _ _ _ bc bs (LI_go hX hS hK1 hR2 hb)
set_option maxHeartbeats 1000000 in
set_option maxRecDepth 100000 in
theorem lc_30 (l : Launch) (G : az_Gh) (F : az_Fn) (bc bs i : Nat) (sh : List az_Sh) (sg : Nat → Nat → Int32) (la : Nat → Nat → Int64) (σ : SGM) (kp tr : Option Nat) (hL : (az_ex G 1003).1 < 2 ^ 31) (hi : i + 6 ≤ (az_ex G 1003).1) (hI : LI sh sg la σ kp tr bc bs) (back : ∀ (sh : List az_Sh) (sg : Nat → Nat → Int32) (la : Nat → Nat → Int64) (σ : SGM) (kp tr : Option Nat) (bc bs : Nat), LI sh sg la σ kp tr bc bs → AW l G mL_law 2048 F bc bs 1791 [some (.ref 1003), some (.ref 0), some (.ref 60), some (.int (nI i))] [] (sh, sg, la)) : AW l G mL_law 2048 F bc bs 1193 [some (.ref 1003), some (.ref 0), some (.ref 60), some (.int (nI i))] [] (sh, sg, la) := by
  obtain ⟨hX, hS, hK, hR, hb⟩ := hI
  refine A_aload_n dL_law_1193 rfl rfl ?_
  refine A_aload_n dL_law_1194 rfl rfl ?_
  refine A_iload_n dL_law_1195 rfl rfl ?_
  refine A_iconst (v := 1) dL_law_1196 (by decide) ?_
  refine A_iadd dL_law_1197 ?_
  refine A_eald (k := 1003) (i := i + 1) dL_law_1198 (by decide) (by decide) (by omega) hL (nI_add i 1) ?_
  refine A_aload_n dL_law_1199 rfl rfl ?_
  refine A_iload_n dL_law_1200 rfl rfl ?_
  refine A_iconst (v := 2) dL_law_1201 (by decide) ?_
  refine A_iadd dL_law_1202 ?_
  refine A_eald (k := 1003) (i := i + 2) dL_law_1203 (by decide) (by decide) (by omega) hL (nI_add i 2) ?_
  refine A_callV (n := 0) dL_law_1204 kvX7_orders mlL_142 rfl (az_rc_obj clX7 (hX 0 _ rfl)) (x_orders l G 2000 sh sg la (sg, la) σ ((az_ex G 1003).2 (i + 1)) ((az_ex G 1003).2 (i + 2)) hX hK) (by decide) (Nat.le_refl _) (Nat.le_refl _) rfl (Nat.le_of_ble_eq_true rfl) (fun r S1 hp => ?_)
  obtain ⟨rfl, sg1, la1, rfl, hK1⟩ := hp
  show AW l G mL_law 2048 F bc bs 1207 [some (.ref 1003), some (.ref 0), some (.ref 60), some (.int (nI i))] [.int (q_orders σ ((az_ex G 1003).2 (i + 1)) ((az_ex G 1003).2 (i + 2))).1] (sh, sg1, la1)
  have hR1 := hR.mv hK1
  refine A_aload_n dL_law_1207 rfl rfl ?_
  refine A_aload_n dL_law_1208 rfl rfl ?_
  refine A_iload_n dL_law_1209 rfl rfl ?_
  refine A_iconst (v := 1) dL_law_1210 (by decide) ?_
  refine A_iadd dL_law_1211 ?_
  refine A_eald (k := 1003) (i := i + 1) dL_law_1212 (by decide) (by decide) (by omega) hL (nI_add i 1) ?_
  refine A_aload_n dL_law_1213 rfl rfl ?_
  refine A_iload_n dL_law_1214 rfl rfl ?_
  refine A_iconst (v := 2) dL_law_1215 (by decide) ?_
  refine A_iadd dL_law_1216 ?_
  refine A_eald (k := 1003) (i := i + 2) dL_law_1217 (by decide) (by decide) (by omega) hL (nI_add i 2) ?_
  refine A_callV (n := 0) dL_law_1218 kvX8_orders mlL_145 rfl (az_rc_obj clX8 (hS.1 0 _ rfl)) (y_orders l G 2000 sh sg1 la1 (sg1, la1) σ kp tr ((az_ex G 1003).2 (i + 1)) ((az_ex G 1003).2 (i + 2)) hS.1 hR1 hK.wf) (by decide) (Nat.le_refl _) (Nat.le_refl _) rfl (Nat.le_of_ble_eq_true rfl) (fun r S1 hp => ?_)
  obtain ⟨rfl, sg2, la2, rfl, hR2⟩ := hp
  show AW l G mL_law 2048 F bc bs 1221 [some (.ref 1003), some (.ref 0), some (.ref 60), some (.int (nI i))] [.int (q_orders σ ((az_ex G 1003).2 (i + 1)) ((az_ex G 1003).2 (i + 2))).1, .int (q_orders σ ((az_ex G 1003).2 (i + 1)) ((az_ex G 1003).2 (i + 2))).1] (sh, sg2, la2)
  refine A_icmp_eq (tgt := 1791) dL_law_1221 rfl (fun _ => ?_) (fun h => absurd rfl h)
  exact back sh sg2 la2 _ _ _ bc bs (LI_go hX hS hK1 hR2 hb)
set_option maxHeartbeats 1000000 in
set_option maxRecDepth 100000 in
theorem lc_31 (l : Launch) (G : az_Gh) (F : az_Fn) (bc bs i : Nat) (sh : List az_Sh) (sg : Nat → Nat → Int32) (la : Nat → Nat → Int64) (σ : SGM) (kp tr : Option Nat) (hL : (az_ex G 1003).1 < 2 ^ 31) (hi : i + 6 ≤ (az_ex G 1003).1) (hI : LI sh sg la σ kp tr bc bs) (back : ∀ (sh : List az_Sh) (sg : Nat → Nat → Int32) (la : Nat → Nat → Int64) (σ : SGM) (kp tr : Option Nat) (bc bs : Nat), LI sh sg la σ kp tr bc bs → AW l G mL_law 2048 F bc bs 1791 [some (.ref 1003), some (.ref 0), some (.ref 60), some (.int (nI i))] [] (sh, sg, la)) : AW l G mL_law 2048 F bc bs 1226 [some (.ref 1003), some (.ref 0), some (.ref 60), some (.int (nI i))] [] (sh, sg, la) := by
  obtain ⟨hX, hS, hK, hR, hb⟩ := hI
  refine A_aload_n dL_law_1226 rfl rfl ?_
  refine A_aload_n dL_law_1227 rfl rfl ?_
  refine A_iload_n dL_law_1228 rfl rfl ?_
  refine A_iconst (v := 1) dL_law_1229 (by decide) ?_
  refine A_iadd dL_law_1230 ?_
  refine A_eald (k := 1003) (i := i + 1) dL_law_1231 (by decide) (by decide) (by omega) hL (nI_add i 1) ?_
  refine A_aload_n dL_law_1232 rfl rfl ?_
  refine A_iload_n dL_law_1233 rfl rfl ?_
  refine A_iconst (v := 2) dL_law_1234 (by decide) ?_
  refine A_iadd dL_law_1235 ?_
  refine A_eald (k := 1003) (i := i + 2) dL_law_1236 (by decide) (by decide) (by omega) hL (nI_add i 2) ?_
  refine A_callV (n := 0) dL_law_1237 kvX7_next mlL_146 rfl (az_rc_obj clX7 (hX 0 _ rfl)) (x_next l G 2000 sh sg la (sg, la) σ ((az_ex G 1003).2 (i + 1)) ((az_ex G 1003).2 (i + 2)) hX hK) (by decide) (Nat.le_refl _) (Nat.le_refl _) rfl (Nat.le_of_ble_eq_true rfl) (fun r S1 hp => ?_)
  obtain ⟨rfl, sg1, la1, rfl, hK1⟩ := hp
  show AW l G mL_law 2048 F bc bs 1240 [some (.ref 1003), some (.ref 0), some (.ref 60), some (.int (nI i))] [.int (q_next σ ((az_ex G 1003).2 (i + 1)) ((az_ex G 1003).2 (i + 2))).1] (sh, sg1, la1)
  have hR1 := hR.mv hK1
  refine A_aload_n dL_law_1240 rfl rfl ?_
  refine A_aload_n dL_law_1241 rfl rfl ?_
  refine A_iload_n dL_law_1242 rfl rfl ?_
  refine A_iconst (v := 1) dL_law_1243 (by decide) ?_
  refine A_iadd dL_law_1244 ?_
  refine A_eald (k := 1003) (i := i + 1) dL_law_1245 (by decide) (by decide) (by omega) hL (nI_add i 1) ?_
  refine A_aload_n dL_law_1246 rfl rfl ?_
  refine A_iload_n dL_law_1247 rfl rfl ?_
  refine A_iconst (v := 2) dL_law_1248 (by decide) ?_
  refine A_iadd dL_law_1249 ?_
  refine A_eald (k := 1003) (i := i + 2) dL_law_1250 (by decide) (by decide) (by omega) hL (nI_add i 2) ?_
  refine A_callV (n := 0) dL_law_1251 kvX8_next mlL_149 rfl (az_rc_obj clX8 (hS.1 0 _ rfl)) (y_next l G 2000 sh sg1 la1 (sg1, la1) σ kp tr ((az_ex G 1003).2 (i + 1)) ((az_ex G 1003).2 (i + 2)) hS.1 hR1 hK.wf) (by decide) (Nat.le_refl _) (Nat.le_refl _) rfl (Nat.le_of_ble_eq_true rfl) (fun r S1 hp => ?_)
  obtain ⟨rfl, sg2, la2, rfl, hR2⟩ := hp
  show AW l G mL_law 2048 F bc bs 1254 [some (.ref 1003), some (.ref 0), some (.ref 60), some (.int (nI i))] [.int (q_next σ ((az_ex G 1003).2 (i + 1)) ((az_ex G 1003).2 (i + 2))).1, .int (q_next σ ((az_ex G 1003).2 (i + 1)) ((az_ex G 1003).2 (i + 2))).1] (sh, sg2, la2)
  refine A_icmp_eq (tgt := 1791) dL_law_1254 rfl (fun _ => ?_) (fun h => absurd rfl h)
  exact back sh sg2 la2 _ _ _ bc bs (LI_go hX hS hK1 hR2 hb)
set_option maxHeartbeats 1000000 in
set_option maxRecDepth 100000 in
theorem lc_32 (l : Launch) (G : az_Gh) (F : az_Fn) (bc bs i : Nat) (sh : List az_Sh) (sg : Nat → Nat → Int32) (la : Nat → Nat → Int64) (σ : SGM) (kp tr : Option Nat) (hL : (az_ex G 1003).1 < 2 ^ 31) (hi : i + 6 ≤ (az_ex G 1003).1) (hI : LI sh sg la σ kp tr bc bs) (back : ∀ (sh : List az_Sh) (sg : Nat → Nat → Int32) (la : Nat → Nat → Int64) (σ : SGM) (kp tr : Option Nat) (bc bs : Nat), LI sh sg la σ kp tr bc bs → AW l G mL_law 2048 F bc bs 1791 [some (.ref 1003), some (.ref 0), some (.ref 60), some (.int (nI i))] [] (sh, sg, la)) : AW l G mL_law 2048 F bc bs 1259 [some (.ref 1003), some (.ref 0), some (.ref 60), some (.int (nI i))] [] (sh, sg, la) := by
  obtain ⟨hX, hS, hK, hR, hb⟩ := hI
  refine A_aload_n dL_law_1259 rfl rfl ?_
  refine A_aload_n dL_law_1260 rfl rfl ?_
  refine A_iload_n dL_law_1261 rfl rfl ?_
  refine A_iconst (v := 1) dL_law_1262 (by decide) ?_
  refine A_iadd dL_law_1263 ?_
  refine A_eald (k := 1003) (i := i + 1) dL_law_1264 (by decide) (by decide) (by omega) hL (nI_add i 1) ?_
  refine A_aload_n dL_law_1265 rfl rfl ?_
  refine A_iload_n dL_law_1266 rfl rfl ?_
  refine A_iconst (v := 2) dL_law_1267 (by decide) ?_
  refine A_iadd dL_law_1268 ?_
  refine A_eald (k := 1003) (i := i + 2) dL_law_1269 (by decide) (by decide) (by omega) hL (nI_add i 2) ?_
  refine A_callV (n := 0) dL_law_1270 kvX7_mayBe mlL_150 rfl (az_rc_obj clX7 (hX 0 _ rfl)) (x_mayBe l G 2000 sh sg la (sg, la) σ ((az_ex G 1003).2 (i + 1)) ((az_ex G 1003).2 (i + 2)) hX hK) (by decide) (Nat.le_refl _) (Nat.le_refl _) rfl (Nat.le_of_ble_eq_true rfl) (fun r S1 hp => ?_)
  obtain ⟨rfl, sg1, la1, rfl, hK1⟩ := hp
  show AW l G mL_law 2048 F bc bs 1273 [some (.ref 1003), some (.ref 0), some (.ref 60), some (.int (nI i))] [.int (q_mayBe σ ((az_ex G 1003).2 (i + 1)) ((az_ex G 1003).2 (i + 2))).1] (sh, sg1, la1)
  have hR1 := hR.mv hK1
  refine A_aload_n dL_law_1273 rfl rfl ?_
  refine A_aload_n dL_law_1274 rfl rfl ?_
  refine A_iload_n dL_law_1275 rfl rfl ?_
  refine A_iconst (v := 1) dL_law_1276 (by decide) ?_
  refine A_iadd dL_law_1277 ?_
  refine A_eald (k := 1003) (i := i + 1) dL_law_1278 (by decide) (by decide) (by omega) hL (nI_add i 1) ?_
  refine A_aload_n dL_law_1279 rfl rfl ?_
  refine A_iload_n dL_law_1280 rfl rfl ?_
  refine A_iconst (v := 2) dL_law_1281 (by decide) ?_
  refine A_iadd dL_law_1282 ?_
  refine A_eald (k := 1003) (i := i + 2) dL_law_1283 (by decide) (by decide) (by omega) hL (nI_add i 2) ?_
  refine A_callV (n := 0) dL_law_1284 kvX8_mayBe mlL_153 rfl (az_rc_obj clX8 (hS.1 0 _ rfl)) (y_mayBe l G 2000 sh sg1 la1 (sg1, la1) σ kp tr ((az_ex G 1003).2 (i + 1)) ((az_ex G 1003).2 (i + 2)) hS.1 hR1 hK.wf) (by decide) (Nat.le_refl _) (Nat.le_refl _) rfl (Nat.le_of_ble_eq_true rfl) (fun r S1 hp => ?_)
  obtain ⟨rfl, sg2, la2, rfl, hR2⟩ := hp
  show AW l G mL_law 2048 F bc bs 1287 [some (.ref 1003), some (.ref 0), some (.ref 60), some (.int (nI i))] [.int (q_mayBe σ ((az_ex G 1003).2 (i + 1)) ((az_ex G 1003).2 (i + 2))).1, .int (q_mayBe σ ((az_ex G 1003).2 (i + 1)) ((az_ex G 1003).2 (i + 2))).1] (sh, sg2, la2)
  refine A_icmp_eq (tgt := 1791) dL_law_1287 rfl (fun _ => ?_) (fun h => absurd rfl h)
  exact back sh sg2 la2 _ _ _ bc bs (LI_go hX hS hK1 hR2 hb)
set_option maxHeartbeats 1000000 in
set_option maxRecDepth 100000 in
theorem lc_33 (l : Launch) (G : az_Gh) (F : az_Fn) (bc bs i : Nat) (sh : List az_Sh) (sg : Nat → Nat → Int32) (la : Nat → Nat → Int64) (σ : SGM) (kp tr : Option Nat) (hL : (az_ex G 1003).1 < 2 ^ 31) (hi : i + 6 ≤ (az_ex G 1003).1) (hI : LI sh sg la σ kp tr bc bs) (back : ∀ (sh : List az_Sh) (sg : Nat → Nat → Int32) (la : Nat → Nat → Int64) (σ : SGM) (kp tr : Option Nat) (bc bs : Nat), LI sh sg la σ kp tr bc bs → AW l G mL_law 2048 F bc bs 1791 [some (.ref 1003), some (.ref 0), some (.ref 60), some (.int (nI i))] [] (sh, sg, la)) : AW l G mL_law 2048 F bc bs 1292 [some (.ref 1003), some (.ref 0), some (.ref 60), some (.int (nI i))] [] (sh, sg, la) := by
  obtain ⟨hX, hS, hK, hR, hb⟩ := hI
  refine A_aload_n dL_law_1292 rfl rfl ?_
  refine A_aload_n dL_law_1293 rfl rfl ?_
  refine A_iload_n dL_law_1294 rfl rfl ?_
  refine A_iconst (v := 1) dL_law_1295 (by decide) ?_
  refine A_iadd dL_law_1296 ?_
  refine A_eald (k := 1003) (i := i + 1) dL_law_1297 (by decide) (by decide) (by omega) hL (nI_add i 1) ?_
  refine A_aload_n dL_law_1298 rfl rfl ?_
  refine A_iload_n dL_law_1299 rfl rfl ?_
  refine A_iconst (v := 2) dL_law_1300 (by decide) ?_
  refine A_iadd dL_law_1301 ?_
  refine A_eald (k := 1003) (i := i + 2) dL_law_1302 (by decide) (by decide) (by omega) hL (nI_add i 2) ?_
  refine A_callV (n := 0) dL_law_1303 kvX7_wrongBowls mlL_154 rfl (az_rc_obj clX7 (hX 0 _ rfl)) (x_wrongBowls l G 2000 sh sg la (sg, la) σ ((az_ex G 1003).2 (i + 1)) ((az_ex G 1003).2 (i + 2)) hX hK) (by decide) (Nat.le_refl _) (Nat.le_refl _) rfl (Nat.le_of_ble_eq_true rfl) (fun r S1 hp => ?_)
  obtain ⟨rfl, sg1, la1, rfl, hK1⟩ := hp
  show AW l G mL_law 2048 F bc bs 1306 [some (.ref 1003), some (.ref 0), some (.ref 60), some (.int (nI i))] [.int (q_wrongBowls σ ((az_ex G 1003).2 (i + 1)) ((az_ex G 1003).2 (i + 2))).1] (sh, sg1, la1)
  have hR1 := hR.mv hK1
  refine A_aload_n dL_law_1306 rfl rfl ?_
  refine A_aload_n dL_law_1307 rfl rfl ?_
  refine A_iload_n dL_law_1308 rfl rfl ?_
  refine A_iconst (v := 1) dL_law_1309 (by decide) ?_
  refine A_iadd dL_law_1310 ?_
  refine A_eald (k := 1003) (i := i + 1) dL_law_1311 (by decide) (by decide) (by omega) hL (nI_add i 1) ?_
  refine A_aload_n dL_law_1312 rfl rfl ?_
  refine A_iload_n dL_law_1313 rfl rfl ?_
  refine A_iconst (v := 2) dL_law_1314 (by decide) ?_
  refine A_iadd dL_law_1315 ?_
  refine A_eald (k := 1003) (i := i + 2) dL_law_1316 (by decide) (by decide) (by omega) hL (nI_add i 2) ?_
  refine A_callV (n := 0) dL_law_1317 kvX8_wrongBowls mlL_157 rfl (az_rc_obj clX8 (hS.1 0 _ rfl)) (y_wrongBowls l G 2000 sh sg1 la1 (sg1, la1) σ kp tr ((az_ex G 1003).2 (i + 1)) ((az_ex G 1003).2 (i + 2)) hS.1 hR1 hK.wf) (by decide) (Nat.le_refl _) (Nat.le_refl _) rfl (Nat.le_of_ble_eq_true rfl) (fun r S1 hp => ?_)
  obtain ⟨rfl, sg2, la2, rfl, hR2⟩ := hp
  show AW l G mL_law 2048 F bc bs 1320 [some (.ref 1003), some (.ref 0), some (.ref 60), some (.int (nI i))] [.int (q_wrongBowls σ ((az_ex G 1003).2 (i + 1)) ((az_ex G 1003).2 (i + 2))).1, .int (q_wrongBowls σ ((az_ex G 1003).2 (i + 1)) ((az_ex G 1003).2 (i + 2))).1] (sh, sg2, la2)
  refine A_icmp_eq (tgt := 1791) dL_law_1320 rfl (fun _ => ?_) (fun h => absurd rfl h)
  exact back sh sg2 la2 _ _ _ bc bs (LI_go hX hS hK1 hR2 hb)
set_option maxHeartbeats 1000000 in
set_option maxRecDepth 100000 in
theorem lc_34 (l : Launch) (G : az_Gh) (F : az_Fn) (bc bs i : Nat) (sh : List az_Sh) (sg : Nat → Nat → Int32) (la : Nat → Nat → Int64) (σ : SGM) (kp tr : Option Nat) (hL : (az_ex G 1003).1 < 2 ^ 31) (hi : i + 6 ≤ (az_ex G 1003).1) (hI : LI sh sg la σ kp tr bc bs) (back : ∀ (sh : List az_Sh) (sg : Nat → Nat → Int32) (la : Nat → Nat → Int64) (σ : SGM) (kp tr : Option Nat) (bc bs : Nat), LI sh sg la σ kp tr bc bs → AW l G mL_law 2048 F bc bs 1791 [some (.ref 1003), some (.ref 0), some (.ref 60), some (.int (nI i))] [] (sh, sg, la)) : AW l G mL_law 2048 F bc bs 1325 [some (.ref 1003), some (.ref 0), some (.ref 60), some (.int (nI i))] [] (sh, sg, la) := by
  obtain ⟨hX, hS, hK, hR, hb⟩ := hI
  refine A_aload_n dL_law_1325 rfl rfl ?_
  refine A_aload_n dL_law_1326 rfl rfl ?_
  refine A_iload_n dL_law_1327 rfl rfl ?_
  refine A_iconst (v := 1) dL_law_1328 (by decide) ?_
  refine A_iadd dL_law_1329 ?_
  refine A_eald (k := 1003) (i := i + 1) dL_law_1330 (by decide) (by decide) (by omega) hL (nI_add i 1) ?_
  refine A_callV (n := 0) dL_law_1331 kvX7_byTurns mlL_158 rfl (az_rc_obj clX7 (hX 0 _ rfl)) (x_byTurns l G 2000 sh sg la (sg, la) σ ((az_ex G 1003).2 (i + 1)) hX hK) (by decide) (Nat.le_refl _) (Nat.le_refl _) rfl (Nat.le_of_ble_eq_true rfl) (fun r S1 hp => ?_)
  obtain ⟨rfl, sg1, la1, rfl, hK1⟩ := hp
  show AW l G mL_law 2048 F bc bs 1334 [some (.ref 1003), some (.ref 0), some (.ref 60), some (.int (nI i))] [.int (q_byTurns σ ((az_ex G 1003).2 (i + 1))).1] (sh, sg1, la1)
  have hR1 := hR.mv hK1
  refine A_aload_n dL_law_1334 rfl rfl ?_
  refine A_aload_n dL_law_1335 rfl rfl ?_
  refine A_iload_n dL_law_1336 rfl rfl ?_
  refine A_iconst (v := 1) dL_law_1337 (by decide) ?_
  refine A_iadd dL_law_1338 ?_
  refine A_eald (k := 1003) (i := i + 1) dL_law_1339 (by decide) (by decide) (by omega) hL (nI_add i 1) ?_
  refine A_callV (n := 0) dL_law_1340 kvX8_byTurns mlL_161 rfl (az_rc_obj clX8 (hS.1 0 _ rfl)) (y_byTurns l G 2000 sh sg1 la1 (sg1, la1) σ kp tr ((az_ex G 1003).2 (i + 1)) hS.1 hR1 hK.wf) (by decide) (Nat.le_refl _) (Nat.le_refl _) rfl (Nat.le_of_ble_eq_true rfl) (fun r S1 hp => ?_)
  obtain ⟨rfl, sg2, la2, rfl, hR2⟩ := hp
  show AW l G mL_law 2048 F bc bs 1343 [some (.ref 1003), some (.ref 0), some (.ref 60), some (.int (nI i))] [.int (q_byTurns σ ((az_ex G 1003).2 (i + 1))).1, .int (q_byTurns σ ((az_ex G 1003).2 (i + 1))).1] (sh, sg2, la2)
  refine A_icmp_eq (tgt := 1791) dL_law_1343 rfl (fun _ => ?_) (fun h => absurd rfl h)
  exact back sh sg2 la2 _ _ _ bc bs (LI_go hX hS hK1 hR2 hb)
set_option maxHeartbeats 1000000 in
set_option maxRecDepth 100000 in
theorem lc_35 (l : Launch) (G : az_Gh) (F : az_Fn) (bc bs i : Nat) (sh : List az_Sh) (sg : Nat → Nat → Int32) (la : Nat → Nat → Int64) (σ : SGM) (kp tr : Option Nat) (hL : (az_ex G 1003).1 < 2 ^ 31) (hi : i + 6 ≤ (az_ex G 1003).1) (hI : LI sh sg la σ kp tr bc bs) (back : ∀ (sh : List az_Sh) (sg : Nat → Nat → Int32) (la : Nat → Nat → Int64) (σ : SGM) (kp tr : Option Nat) (bc bs : Nat), LI sh sg la σ kp tr bc bs → AW l G mL_law 2048 F bc bs 1791 [some (.ref 1003), some (.ref 0), some (.ref 60), some (.int (nI i))] [] (sh, sg, la)) : AW l G mL_law 2048 F bc bs 1348 [some (.ref 1003), some (.ref 0), some (.ref 60), some (.int (nI i))] [] (sh, sg, la) := by
  obtain ⟨hX, hS, hK, hR, hb⟩ := hI
  refine A_aload_n dL_law_1348 rfl rfl ?_
  refine A_aload_n dL_law_1349 rfl rfl ?_
  refine A_iload_n dL_law_1350 rfl rfl ?_
  refine A_iconst (v := 1) dL_law_1351 (by decide) ?_
  refine A_iadd dL_law_1352 ?_
  refine A_eald (k := 1003) (i := i + 1) dL_law_1353 (by decide) (by decide) (by omega) hL (nI_add i 1) ?_
  refine A_aload_n dL_law_1354 rfl rfl ?_
  refine A_iload_n dL_law_1355 rfl rfl ?_
  refine A_iconst (v := 2) dL_law_1356 (by decide) ?_
  refine A_iadd dL_law_1357 ?_
  refine A_eald (k := 1003) (i := i + 2) dL_law_1358 (by decide) (by decide) (by omega) hL (nI_add i 2) ?_
  refine A_callV (n := 0) dL_law_1359 kvX7_odds mlL_162 rfl (az_rc_obj clX7 (hX 0 _ rfl)) (x_odds l G 2000 sh sg la (sg, la) σ ((az_ex G 1003).2 (i + 1)) ((az_ex G 1003).2 (i + 2)) hX hK) (by decide) (Nat.le_refl _) (Nat.le_refl _) rfl (Nat.le_of_ble_eq_true rfl) (fun r S1 hp => ?_)
  obtain ⟨rfl, sg1, la1, rfl, hK1⟩ := hp
  show AW l G mL_law 2048 F bc bs 1362 [some (.ref 1003), some (.ref 0), some (.ref 60), some (.int (nI i))] [.int (q_odds σ ((az_ex G 1003).2 (i + 1)) ((az_ex G 1003).2 (i + 2))).1] (sh, sg1, la1)
  have hR1 := hR.mv hK1
  refine A_aload_n dL_law_1362 rfl rfl ?_
  refine A_aload_n dL_law_1363 rfl rfl ?_
  refine A_iload_n dL_law_1364 rfl rfl ?_
  refine A_iconst (v := 1) dL_law_1365 (by decide) ?_
  refine A_iadd dL_law_1366 ?_
  refine A_eald (k := 1003) (i := i + 1) dL_law_1367 (by decide) (by decide) (by omega) hL (nI_add i 1) ?_
  refine A_aload_n dL_law_1368 rfl rfl ?_
  refine A_iload_n dL_law_1369 rfl rfl ?_
  refine A_iconst (v := 2) dL_law_1370 (by decide) ?_
  refine A_iadd dL_law_1371 ?_
  refine A_eald (k := 1003) (i := i + 2) dL_law_1372 (by decide) (by decide) (by omega) hL (nI_add i 2) ?_
  refine A_callV (n := 0) dL_law_1373 kvX8_odds mlL_165 rfl (az_rc_obj clX8 (hS.1 0 _ rfl)) (y_odds l G 2000 sh sg1 la1 (sg1, la1) σ kp tr ((az_ex G 1003).2 (i + 1)) ((az_ex G 1003).2 (i + 2)) hS.1 hR1 hK.wf) (by decide) (Nat.le_refl _) (Nat.le_refl _) rfl (Nat.le_of_ble_eq_true rfl) (fun r S1 hp => ?_)
  obtain ⟨rfl, sg2, la2, rfl, hR2⟩ := hp
  show AW l G mL_law 2048 F bc bs 1376 [some (.ref 1003), some (.ref 0), some (.ref 60), some (.int (nI i))] [.int (q_odds σ ((az_ex G 1003).2 (i + 1)) ((az_ex G 1003).2 (i + 2))).1, .int (q_odds σ ((az_ex G 1003).2 (i + 1)) ((az_ex G 1003).2 (i + 2))).1] (sh, sg2, la2)
  refine A_icmp_eq (tgt := 1791) dL_law_1376 rfl (fun _ => ?_) (fun h => absurd rfl h)
  exact back sh sg2 la2 _ _ _ bc bs (LI_go hX hS hK1 hR2 hb)
set_option maxHeartbeats 1000000 in
set_option maxRecDepth 100000 in
theorem lc_36 (l : Launch) (G : az_Gh) (F : az_Fn) (bc bs i : Nat) (sh : List az_Sh) (sg : Nat → Nat → Int32) (la : Nat → Nat → Int64) (σ : SGM) (kp tr : Option Nat) (hL : (az_ex G 1003).1 < 2 ^ 31) (hi : i + 6 ≤ (az_ex G 1003).1) (hI : LI sh sg la σ kp tr bc bs) (back : ∀ (sh : List az_Sh) (sg : Nat → Nat → Int32) (la : Nat → Nat → Int64) (σ : SGM) (kp tr : Option Nat) (bc bs : Nat), LI sh sg la σ kp tr bc bs → AW l G mL_law 2048 F bc bs 1791 [some (.ref 1003), some (.ref 0), some (.ref 60), some (.int (nI i))] [] (sh, sg, la)) : AW l G mL_law 2048 F bc bs 1381 [some (.ref 1003), some (.ref 0), some (.ref 60), some (.int (nI i))] [] (sh, sg, la) := by
  obtain ⟨hX, hS, hK, hR, hb⟩ := hI
  refine A_aload_n dL_law_1381 rfl rfl ?_
  refine A_callV (n := 0) dL_law_1382 kvX7_warmest mlL_166 rfl (az_rc_obj clX7 (hX 0 _ rfl)) (x_warmest l G 2000 sh sg la (sg, la) σ hX hK) (by decide) (Nat.le_refl _) (Nat.le_refl _) rfl (Nat.le_of_ble_eq_true rfl) (fun r S1 hp => ?_)
  obtain ⟨rfl, sg1, la1, rfl, hK1⟩ := hp
  show AW l G mL_law 2048 F bc bs 1385 [some (.ref 1003), some (.ref 0), some (.ref 60), some (.int (nI i))] [.int (q_warmest σ)] (sh, sg1, la1)
  have hR1 := hR.mv hK1
  refine A_aload_n dL_law_1385 rfl rfl ?_
  refine A_callV (n := 0) dL_law_1386 kvX8_warmest mlL_169 rfl (az_rc_obj clX8 (hS.1 0 _ rfl)) (y_warmest l G 2000 sh sg1 la1 (sg1, la1) σ kp tr hS.1 hR1 hK.wf) (by decide) (Nat.le_refl _) (Nat.le_refl _) rfl (Nat.le_of_ble_eq_true rfl) (fun r S1 hp => ?_)
  obtain ⟨rfl, sg2, la2, rfl, hR2⟩ := hp
  show AW l G mL_law 2048 F bc bs 1389 [some (.ref 1003), some (.ref 0), some (.ref 60), some (.int (nI i))] [.int (q_warmest σ), .int (q_warmest σ)] (sh, sg2, la2)
  refine A_icmp_eq (tgt := 1791) dL_law_1389 rfl (fun _ => ?_) (fun h => absurd rfl h)
  exact back sh sg2 la2 _ _ _ bc bs (LI_go hX hS hK1 hR2 hb)
set_option maxHeartbeats 1000000 in
set_option maxRecDepth 100000 in
theorem lc_37 (l : Launch) (G : az_Gh) (F : az_Fn) (bc bs i : Nat) (sh : List az_Sh) (sg : Nat → Nat → Int32) (la : Nat → Nat → Int64) (σ : SGM) (kp tr : Option Nat) (hL : (az_ex G 1003).1 < 2 ^ 31) (hi : i + 6 ≤ (az_ex G 1003).1) (hI : LI sh sg la σ kp tr bc bs) (back : ∀ (sh : List az_Sh) (sg : Nat → Nat → Int32) (la : Nat → Nat → Int64) (σ : SGM) (kp tr : Option Nat) (bc bs : Nat), LI sh sg la σ kp tr bc bs → AW l G mL_law 2048 F bc bs 1791 [some (.ref 1003), some (.ref 0), some (.ref 60), some (.int (nI i))] [] (sh, sg, la)) : AW l G mL_law 2048 F bc bs 1394 [some (.ref 1003), some (.ref 0), some (.ref 60), some (.int (nI i))] [] (sh, sg, la) := by
  obtain ⟨hX, hS, hK, hR, hb⟩ := hI
  refine A_aload_n dL_law_1394 rfl rfl ?_
  refine A_aload_n dL_law_1395 rfl rfl ?_
  refine A_iload_n dL_law_1396 rfl rfl ?_
  refine A_iconst (v := 1) dL_law_1397 (by decide) ?_
  refine A_iadd dL_law_1398 ?_
  refine A_eald (k := 1003) (i := i + 1) dL_law_1399 (by decide) (by decide) (by omega) hL (nI_add i 1) ?_
  refine A_callV (n := 0) dL_law_1400 kvX7_brandyFor mlL_170 rfl (az_rc_obj clX7 (hX 0 _ rfl)) (x_brandyFor l G 2000 sh sg la (sg, la) σ ((az_ex G 1003).2 (i + 1)) hX hK) (by decide) (Nat.le_refl _) (Nat.le_refl _) rfl (Nat.le_of_ble_eq_true rfl) (fun r S1 hp => ?_)
  obtain ⟨rfl, sg1, la1, rfl, hK1⟩ := hp
  show AW l G mL_law 2048 F bc bs 1403 [some (.ref 1003), some (.ref 0), some (.ref 60), some (.int (nI i))] [.int (q_brandyFor σ ((az_ex G 1003).2 (i + 1))).1] (sh, sg1, la1)
  have hR1 := hR.mv hK1
  refine A_aload_n dL_law_1403 rfl rfl ?_
  refine A_aload_n dL_law_1404 rfl rfl ?_
  refine A_iload_n dL_law_1405 rfl rfl ?_
  refine A_iconst (v := 1) dL_law_1406 (by decide) ?_
  refine A_iadd dL_law_1407 ?_
  refine A_eald (k := 1003) (i := i + 1) dL_law_1408 (by decide) (by decide) (by omega) hL (nI_add i 1) ?_
  refine A_callV (n := 0) dL_law_1409 kvX8_brandyFor mlL_173 rfl (az_rc_obj clX8 (hS.1 0 _ rfl)) (y_brandyFor l G 2000 sh sg1 la1 (sg1, la1) σ kp tr ((az_ex G 1003).2 (i + 1)) hS.1 hR1 hK.wf) (by decide) (Nat.le_refl _) (Nat.le_refl _) rfl (Nat.le_of_ble_eq_true rfl) (fun r S1 hp => ?_)
  obtain ⟨rfl, sg2, la2, rfl, hR2⟩ := hp
  show AW l G mL_law 2048 F bc bs 1412 [some (.ref 1003), some (.ref 0), some (.ref 60), some (.int (nI i))] [.int (q_brandyFor σ ((az_ex G 1003).2 (i + 1))).1, .int (q_brandyFor σ ((az_ex G 1003).2 (i + 1))).1] (sh, sg2, la2)
  refine A_icmp_eq (tgt := 1791) dL_law_1412 rfl (fun _ => ?_) (fun h => absurd rfl h)
  exact back sh sg2 la2 _ _ _ bc bs (LI_go hX hS hK1 hR2 hb)
set_option maxHeartbeats 1000000 in
set_option maxRecDepth 100000 in
theorem lc_38 (l : Launch) (G : az_Gh) (F : az_Fn) (bc bs i : Nat) (sh : List az_Sh) (sg : Nat → Nat → Int32) (la : Nat → Nat → Int64) (σ : SGM) (kp tr : Option Nat) (hL : (az_ex G 1003).1 < 2 ^ 31) (hi : i + 6 ≤ (az_ex G 1003).1) (hI : LI sh sg la σ kp tr bc bs) (back : ∀ (sh : List az_Sh) (sg : Nat → Nat → Int32) (la : Nat → Nat → Int64) (σ : SGM) (kp tr : Option Nat) (bc bs : Nat), LI sh sg la σ kp tr bc bs → AW l G mL_law 2048 F bc bs 1791 [some (.ref 1003), some (.ref 0), some (.ref 60), some (.int (nI i))] [] (sh, sg, la)) : AW l G mL_law 2048 F bc bs 1417 [some (.ref 1003), some (.ref 0), some (.ref 60), some (.int (nI i))] [] (sh, sg, la) := by
  obtain ⟨hX, hS, hK, hR, hb⟩ := hI
  refine A_aload_n dL_law_1417 rfl rfl ?_
  refine A_aload_n dL_law_1418 rfl rfl ?_
  refine A_iload_n dL_law_1419 rfl rfl ?_
  refine A_iconst (v := 1) dL_law_1420 (by decide) ?_
  refine A_iadd dL_law_1421 ?_
  refine A_eald (k := 1003) (i := i + 1) dL_law_1422 (by decide) (by decide) (by omega) hL (nI_add i 1) ?_
  refine A_callV (n := 0) dL_law_1423 kvX7_fallFor mlL_174 rfl (az_rc_obj clX7 (hX 0 _ rfl)) (x_fallFor l G 2000 sh sg la (sg, la) σ ((az_ex G 1003).2 (i + 1)) hX hK) (by decide) (Nat.le_refl _) (Nat.le_refl _) rfl (Nat.le_of_ble_eq_true rfl) (fun r S1 hp => ?_)
  obtain ⟨rfl, sg1, la1, rfl, hK1⟩ := hp
  show AW l G mL_law 2048 F bc bs 1426 [some (.ref 1003), some (.ref 0), some (.ref 60), some (.int (nI i))] [.int (q_fallFor σ ((az_ex G 1003).2 (i + 1))).1] (sh, sg1, la1)
  have hR1 := hR.mv hK1
  refine A_aload_n dL_law_1426 rfl rfl ?_
  refine A_aload_n dL_law_1427 rfl rfl ?_
  refine A_iload_n dL_law_1428 rfl rfl ?_
  refine A_iconst (v := 1) dL_law_1429 (by decide) ?_
  refine A_iadd dL_law_1430 ?_
  refine A_eald (k := 1003) (i := i + 1) dL_law_1431 (by decide) (by decide) (by omega) hL (nI_add i 1) ?_
  refine A_callV (n := 0) dL_law_1432 kvX8_fallFor mlL_177 rfl (az_rc_obj clX8 (hS.1 0 _ rfl)) (y_fallFor l G 2000 sh sg1 la1 (sg1, la1) σ kp tr ((az_ex G 1003).2 (i + 1)) hS.1 hR1 hK.wf) (by decide) (Nat.le_refl _) (Nat.le_refl _) rfl (Nat.le_of_ble_eq_true rfl) (fun r S1 hp => ?_)
  obtain ⟨rfl, sg2, la2, rfl, hR2⟩ := hp
  show AW l G mL_law 2048 F bc bs 1435 [some (.ref 1003), some (.ref 0), some (.ref 60), some (.int (nI i))] [.int (q_fallFor σ ((az_ex G 1003).2 (i + 1))).1, .int (q_fallFor σ ((az_ex G 1003).2 (i + 1))).1] (sh, sg2, la2)
  refine A_icmp_eq (tgt := 1791) dL_law_1435 rfl (fun _ => ?_) (fun h => absurd rfl h)
  exact back sh sg2 la2 _ _ _ bc bs (LI_go hX hS hK1 hR2 hb)
set_option maxHeartbeats 1000000 in
set_option maxRecDepth 100000 in
theorem lc_39 (l : Launch) (G : az_Gh) (F : az_Fn) (bc bs i : Nat) (sh : List az_Sh) (sg : Nat → Nat → Int32) (la : Nat → Nat → Int64) (σ : SGM) (kp tr : Option Nat) (hL : (az_ex G 1003).1 < 2 ^ 31) (hi : i + 6 ≤ (az_ex G 1003).1) (hI : LI sh sg la σ kp tr bc bs) (back : ∀ (sh : List az_Sh) (sg : Nat → Nat → Int32) (la : Nat → Nat → Int64) (σ : SGM) (kp tr : Option Nat) (bc bs : Nat), LI sh sg la σ kp tr bc bs → AW l G mL_law 2048 F bc bs 1791 [some (.ref 1003), some (.ref 0), some (.ref 60), some (.int (nI i))] [] (sh, sg, la)) : AW l G mL_law 2048 F bc bs 1440 [some (.ref 1003), some (.ref 0), some (.ref 60), some (.int (nI i))] [] (sh, sg, la) := by
  obtain ⟨hX, hS, hK, hR, hb⟩ := hI
  refine A_aload_n dL_law_1440 rfl rfl ?_
  refine A_aload_n dL_law_1441 rfl rfl ?_
  refine A_iload_n dL_law_1442 rfl rfl ?_
  refine A_iconst (v := 1) dL_law_1443 (by decide) ?_
  refine A_iadd dL_law_1444 ?_
  refine A_eald (k := 1003) (i := i + 1) dL_law_1445 (by decide) (by decide) (by omega) hL (nI_add i 1) ?_
  refine A_callV (n := 0) dL_law_1446 kvX7_holdsOut mlL_178 rfl (az_rc_obj clX7 (hX 0 _ rfl)) (x_holdsOut l G 2000 sh sg la (sg, la) σ ((az_ex G 1003).2 (i + 1)) hX hK) (by decide) (Nat.le_refl _) (Nat.le_refl _) rfl (Nat.le_of_ble_eq_true rfl) (fun r S1 hp => ?_)
  obtain ⟨rfl, sg1, la1, rfl, hK1⟩ := hp
  show AW l G mL_law 2048 F bc bs 1449 [some (.ref 1003), some (.ref 0), some (.ref 60), some (.int (nI i))] [.int (q_holdsOut σ ((az_ex G 1003).2 (i + 1))).1] (sh, sg1, la1)
  have hR1 := hR.mv hK1
  refine A_aload_n dL_law_1449 rfl rfl ?_
  refine A_aload_n dL_law_1450 rfl rfl ?_
  refine A_iload_n dL_law_1451 rfl rfl ?_
  refine A_iconst (v := 1) dL_law_1452 (by decide) ?_
  refine A_iadd dL_law_1453 ?_
  refine A_eald (k := 1003) (i := i + 1) dL_law_1454 (by decide) (by decide) (by omega) hL (nI_add i 1) ?_
  refine A_callV (n := 0) dL_law_1455 kvX8_holdsOut mlL_181 rfl (az_rc_obj clX8 (hS.1 0 _ rfl)) (y_holdsOut l G 2000 sh sg1 la1 (sg1, la1) σ kp tr ((az_ex G 1003).2 (i + 1)) hS.1 hR1 hK.wf) (by decide) (Nat.le_refl _) (Nat.le_refl _) rfl (Nat.le_of_ble_eq_true rfl) (fun r S1 hp => ?_)
  obtain ⟨rfl, sg2, la2, rfl, hR2⟩ := hp
  show AW l G mL_law 2048 F bc bs 1458 [some (.ref 1003), some (.ref 0), some (.ref 60), some (.int (nI i))] [.int (q_holdsOut σ ((az_ex G 1003).2 (i + 1))).1, .int (q_holdsOut σ ((az_ex G 1003).2 (i + 1))).1] (sh, sg2, la2)
  refine A_icmp_eq (tgt := 1791) dL_law_1458 rfl (fun _ => ?_) (fun h => absurd rfl h)
  exact back sh sg2 la2 _ _ _ bc bs (LI_go hX hS hK1 hR2 hb)
set_option maxHeartbeats 1000000 in
set_option maxRecDepth 100000 in
theorem lc_40 (l : Launch) (G : az_Gh) (F : az_Fn) (bc bs i : Nat) (sh : List az_Sh) (sg : Nat → Nat → Int32) (la : Nat → Nat → Int64) (σ : SGM) (kp tr : Option Nat) (hL : (az_ex G 1003).1 < 2 ^ 31) (hi : i + 6 ≤ (az_ex G 1003).1) (hI : LI sh sg la σ kp tr bc bs) (back : ∀ (sh : List az_Sh) (sg : Nat → Nat → Int32) (la : Nat → Nat → Int64) (σ : SGM) (kp tr : Option Nat) (bc bs : Nat), LI sh sg la σ kp tr bc bs → AW l G mL_law 2048 F bc bs 1791 [some (.ref 1003), some (.ref 0), some (.ref 60), some (.int (nI i))] [] (sh, sg, la)) : AW l G mL_law 2048 F bc bs 1463 [some (.ref 1003), some (.ref 0), some (.ref 60), some (.int (nI i))] [] (sh, sg, la) := by
  obtain ⟨hX, hS, hK, hR, hb⟩ := hI
  refine A_aload_n dL_law_1463 rfl rfl ?_
  refine A_aload_n dL_law_1464 rfl rfl ?_
  refine A_iload_n dL_law_1465 rfl rfl ?_
  refine A_iconst (v := 1) dL_law_1466 (by decide) ?_
  refine A_iadd dL_law_1467 ?_
  refine A_eald (k := 1003) (i := i + 1) dL_law_1468 (by decide) (by decide) (by omega) hL (nI_add i 1) ?_
  refine A_callV (n := 0) dL_law_1469 kvX7_toughest mlL_182 rfl (az_rc_obj clX7 (hX 0 _ rfl)) (x_toughest l G 2000 sh sg la (sg, la) σ ((az_ex G 1003).2 (i + 1)) hX hK) (by decide) (Nat.le_refl _) (Nat.le_refl _) rfl (Nat.le_of_ble_eq_true rfl) (fun r S1 hp => ?_)
  obtain ⟨rfl, sg1, la1, rfl, hK1⟩ := hp
  show AW l G mL_law 2048 F bc bs 1472 [some (.ref 1003), some (.ref 0), some (.ref 60), some (.int (nI i))] [.int (q_toughest σ ((az_ex G 1003).2 (i + 1))).1] (sh, sg1, la1)
  have hR1 := hR.mv hK1
  refine A_aload_n dL_law_1472 rfl rfl ?_
  refine A_aload_n dL_law_1473 rfl rfl ?_
  refine A_iload_n dL_law_1474 rfl rfl ?_
  refine A_iconst (v := 1) dL_law_1475 (by decide) ?_
  refine A_iadd dL_law_1476 ?_
  refine A_eald (k := 1003) (i := i + 1) dL_law_1477 (by decide) (by decide) (by omega) hL (nI_add i 1) ?_
  refine A_callV (n := 0) dL_law_1478 kvX8_toughest mlL_185 rfl (az_rc_obj clX8 (hS.1 0 _ rfl)) (y_toughest l G 2000 sh sg1 la1 (sg1, la1) σ kp tr ((az_ex G 1003).2 (i + 1)) hS.1 hR1 hK.wf) (by decide) (Nat.le_refl _) (Nat.le_refl _) rfl (Nat.le_of_ble_eq_true rfl) (fun r S1 hp => ?_)
  obtain ⟨rfl, sg2, la2, rfl, hR2⟩ := hp
  show AW l G mL_law 2048 F bc bs 1481 [some (.ref 1003), some (.ref 0), some (.ref 60), some (.int (nI i))] [.int (q_toughest σ ((az_ex G 1003).2 (i + 1))).1, .int (q_toughest σ ((az_ex G 1003).2 (i + 1))).1] (sh, sg2, la2)
  refine A_icmp_eq (tgt := 1791) dL_law_1481 rfl (fun _ => ?_) (fun h => absurd rfl h)
  exact back sh sg2 la2 _ _ _ bc bs (LI_go hX hS hK1 hR2 hb)
set_option maxHeartbeats 1000000 in
set_option maxRecDepth 100000 in
theorem lc_41 (l : Launch) (G : az_Gh) (F : az_Fn) (bc bs i : Nat) (sh : List az_Sh) (sg : Nat → Nat → Int32) (la : Nat → Nat → Int64) (σ : SGM) (kp tr : Option Nat) (hL : (az_ex G 1003).1 < 2 ^ 31) (hi : i + 6 ≤ (az_ex G 1003).1) (hI : LI sh sg la σ kp tr bc bs) (back : ∀ (sh : List az_Sh) (sg : Nat → Nat → Int32) (la : Nat → Nat → Int64) (σ : SGM) (kp tr : Option Nat) (bc bs : Nat), LI sh sg la σ kp tr bc bs → AW l G mL_law 2048 F bc bs 1791 [some (.ref 1003), some (.ref 0), some (.ref 60), some (.int (nI i))] [] (sh, sg, la)) : AW l G mL_law 2048 F bc bs 1486 [some (.ref 1003), some (.ref 0), some (.ref 60), some (.int (nI i))] [] (sh, sg, la) := by
  obtain ⟨hX, hS, hK, hR, hb⟩ := hI
  refine A_aload_n dL_law_1486 rfl rfl ?_
  refine A_callV (n := 0) dL_law_1487 kvX7_shivering mlL_186 rfl (az_rc_obj clX7 (hX 0 _ rfl)) (x_shivering l G 2000 sh sg la (sg, la) σ hX hK) (by decide) (Nat.le_refl _) (Nat.le_refl _) rfl (Nat.le_of_ble_eq_true rfl) (fun r S1 hp => ?_)
  obtain ⟨rfl, sg1, la1, rfl, hK1⟩ := hp
  show AW l G mL_law 2048 F bc bs 1490 [some (.ref 1003), some (.ref 0), some (.ref 60), some (.int (nI i))] [.int (q_shivering σ)] (sh, sg1, la1)
  have hR1 := hR.mv hK1
  refine A_aload_n dL_law_1490 rfl rfl ?_
  refine A_callV (n := 0) dL_law_1491 kvX8_shivering mlL_189 rfl (az_rc_obj clX8 (hS.1 0 _ rfl)) (y_shivering l G 2000 sh sg1 la1 (sg1, la1) σ kp tr hS.1 hR1 hK.wf) (by decide) (Nat.le_refl _) (Nat.le_refl _) rfl (Nat.le_of_ble_eq_true rfl) (fun r S1 hp => ?_)
  obtain ⟨rfl, sg2, la2, rfl, hR2⟩ := hp
  show AW l G mL_law 2048 F bc bs 1494 [some (.ref 1003), some (.ref 0), some (.ref 60), some (.int (nI i))] [.int (q_shivering σ), .int (q_shivering σ)] (sh, sg2, la2)
  refine A_icmp_eq (tgt := 1791) dL_law_1494 rfl (fun _ => ?_) (fun h => absurd rfl h)
  exact back sh sg2 la2 _ _ _ bc bs (LI_go hX hS hK1 hR2 hb)
