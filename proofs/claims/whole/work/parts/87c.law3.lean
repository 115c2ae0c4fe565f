/-! the law's instructions: cases 15 to 21 -/
theorem w_654 : (.codeWith yL_proof cL_proof 6 (some .int) [(0, 12, 15, 13), (0, 12, 19, 15), (0, 12, 23, 17)] : Cond) ∈ TB := TB_mem (List.mem_of_getElem? (i := 654) (by decide +kernel)) rfl
theorem w_661 : (.codeWith yL_publish cL_publish 4 (some .int) [(0, 9, 12, 13), (0, 9, 15, 17)] : Cond) ∈ TB := TB_mem (List.mem_of_getElem? (i := 661) (by decide +kernel)) rfl
theorem w_672 : (.codeWith yL_vote cL_vote 6 (some .int) [(0, 12, 15, 13), (0, 12, 19, 15), (0, 12, 23, 17)] : Cond) ∈ TB := TB_mem (List.mem_of_getElem? (i := 672) (by decide +kernel)) rfl
theorem w_683 : (.codeWith yL_sentence cL_sentence 4 (some .int) [(0, 9, 12, 13), (0, 9, 15, 17)] : Cond) ∈ TB := TB_mem (List.mem_of_getElem? (i := 683) (by decide +kernel)) rfl
theorem w_717 : (.codeWith yL_appeal cL_appeal 3 (some .int) [(0, 5, 8, 13), (0, 5, 11, 17)] : Cond) ∈ TB := TB_mem (List.mem_of_getElem? (i := 717) (by decide +kernel)) rfl
theorem w_725 : (.codeWith yL_pass cL_pass 4 (some .int) [(0, 9, 12, 15)] : Cond) ∈ TB := TB_mem (List.mem_of_getElem? (i := 725) (by decide +kernel)) rfl
theorem w_732 : (.codeWith yL_kin cL_kin 5 (some .int) [(0, 10, 13, 13)] : Cond) ∈ TB := TB_mem (List.mem_of_getElem? (i := 732) (by decide +kernel)) rfl
theorem dL_law_1130 : decode cL_law 1130 = .ok (.aload_n 1, 1) := by decide +kernel
theorem dL_law_1131 : decode cL_law 1131 = .ok (.aload_n 0, 1) := by decide +kernel
theorem dL_law_1132 : decode cL_law 1132 = .ok (.iload 4, 2) := by decide +kernel
theorem dL_law_1134 : decode cL_law 1134 = .ok (.iconst 1, 1) := by decide +kernel
theorem dL_law_1135 : decode cL_law 1135 = .ok (.iadd, 1) := by decide +kernel
theorem dL_law_1136 : decode cL_law 1136 = .ok (.iaload, 1) := by decide +kernel
theorem dL_law_1137 : decode cL_law 1137 = .ok (.aload_n 0, 1) := by decide +kernel
theorem dL_law_1138 : decode cL_law 1138 = .ok (.iload 4, 2) := by decide +kernel
theorem dL_law_1140 : decode cL_law 1140 = .ok (.iconst 2, 1) := by decide +kernel
theorem dL_law_1141 : decode cL_law 1141 = .ok (.iadd, 1) := by decide +kernel
theorem dL_law_1142 : decode cL_law 1142 = .ok (.iaload, 1) := by decide +kernel
theorem dL_law_1143 : decode cL_law 1143 = .ok (.aload_n 0, 1) := by decide +kernel
theorem dL_law_1144 : decode cL_law 1144 = .ok (.iload 4, 2) := by decide +kernel
theorem dL_law_1146 : decode cL_law 1146 = .ok (.iconst 3, 1) := by decide +kernel
theorem dL_law_1147 : decode cL_law 1147 = .ok (.iadd, 1) := by decide +kernel
theorem dL_law_1148 : decode cL_law 1148 = .ok (.iaload, 1) := by decide +kernel
theorem dL_law_1149 : decode cL_law 1149 = .ok (.aload_n 3, 1) := by decide +kernel
theorem dL_law_1150 : decode cL_law 1150 = .ok (.invokestatic 173, 3) := by decide +kernel
theorem dL_law_1153 : decode cL_law 1153 = .ok (.istore 5, 2) := by decide +kernel
theorem dL_law_1155 : decode cL_law 1155 = .ok (.aload_n 2, 1) := by decide +kernel
theorem dL_law_1156 : decode cL_law 1156 = .ok (.aload_n 0, 1) := by decide +kernel
theorem dL_law_1157 : decode cL_law 1157 = .ok (.iload 4, 2) := by decide +kernel
theorem dL_law_1159 : decode cL_law 1159 = .ok (.iconst 1, 1) := by decide +kernel
theorem dL_law_1160 : decode cL_law 1160 = .ok (.iadd, 1) := by decide +kernel
theorem dL_law_1161 : decode cL_law 1161 = .ok (.iaload, 1) := by decide +kernel
theorem dL_law_1162 : decode cL_law 1162 = .ok (.aload_n 0, 1) := by decide +kernel
theorem dL_law_1163 : decode cL_law 1163 = .ok (.iload 4, 2) := by decide +kernel
theorem dL_law_1165 : decode cL_law 1165 = .ok (.iconst 2, 1) := by decide +kernel
theorem dL_law_1166 : decode cL_law 1166 = .ok (.iadd, 1) := by decide +kernel
theorem dL_law_1167 : decode cL_law 1167 = .ok (.iaload, 1) := by decide +kernel
theorem dL_law_1168 : decode cL_law 1168 = .ok (.aload_n 0, 1) := by decide +kernel
theorem dL_law_1169 : decode cL_law 1169 = .ok (.iload 4, 2) := by decide +kernel
theorem dL_law_1171 : decode cL_law 1171 = .ok (.iconst 3, 1) := by decide +kernel
theorem dL_law_1172 : decode cL_law 1172 = .ok (.iadd, 1) := by decide +kernel
theorem dL_law_1173 : decode cL_law 1173 = .ok (.iaload, 1) := by decide +kernel
theorem dL_law_1174 : decode cL_law 1174 = .ok (.invokevirtual 176, 3) := by decide +kernel
theorem dL_law_1177 : decode cL_law 1177 = .ok (.istore 6, 2) := by decide +kernel
theorem dL_law_1179 : decode cL_law 1179 = .ok (.aload_n 2, 1) := by decide +kernel
theorem dL_law_1180 : decode cL_law 1180 = .ok (.invokevirtual 122, 3) := by decide +kernel
theorem dL_law_1183 : decode cL_law 1183 = .ok (.iload 5, 2) := by decide +kernel
theorem dL_law_1185 : decode cL_law 1185 = .ok (.if_icmp .eq 5, 3) := by decide +kernel
theorem dL_law_1188 : decode cL_law 1188 = .ok (.iconst 0, 1) := by decide +kernel
theorem dL_law_1189 : decode cL_law 1189 = .ok (.ireturn, 1) := by decide +kernel
theorem dL_law_1190 : decode cL_law 1190 = .ok (.iload 5, 2) := by decide +kernel
theorem dL_law_1192 : decode cL_law 1192 = .ok (.ifCond .ne 15, 3) := by decide +kernel
theorem dL_law_1195 : decode cL_law 1195 = .ok (.aload_n 3, 1) := by decide +kernel
theorem dL_law_1196 : decode cL_law 1196 = .ok (.iconst 0, 1) := by decide +kernel
theorem dL_law_1197 : decode cL_law 1197 = .ok (.laload, 1) := by decide +kernel
theorem dL_law_1198 : decode cL_law 1198 = .ok (.iload 6, 2) := by decide +kernel
theorem dL_law_1200 : decode cL_law 1200 = .ok (.i2l, 1) := by decide +kernel
theorem dL_law_1201 : decode cL_law 1201 = .ok (.lcmp, 1) := by decide +kernel
theorem dL_law_1202 : decode cL_law 1202 = .ok (.ifCond .eq 5, 3) := by decide +kernel
theorem dL_law_1205 : decode cL_law 1205 = .ok (.iconst 0, 1) := by decide +kernel
theorem dL_law_1206 : decode cL_law 1206 = .ok (.ireturn, 1) := by decide +kernel
theorem dL_law_1207 : decode cL_law 1207 = .ok (.goto 838, 3) := by decide +kernel
def tab_lawC15 (L : Nat) (xs : Nat → Int32) : List (Nat × Sem) := [(1130, op_al 1 1131), (1131, op_al 0 1132), (1132, op_il 4 1134), (1134, op_ic 1 1135), (1135, op_bin (fun x y => x + y) 1136), (1136, op_sld L xs 1137), (1137, op_al 0 1138), (1138, op_il 4 1140), (1140, op_ic 2 1141), (1141, op_bin (fun x y => x + y) 1142), (1142, op_sld L xs 1143), (1143, op_al 0 1144), (1144, op_il 4 1146), (1146, op_ic 3 1147), (1147, op_bin (fun x y => x + y) 1148), (1148, op_sld L xs 1149), (1149, op_al 3 1150), (1150, op_callL sp_L_proof 5 5 1153), (1153, op_is 5 1155), (1155, op_al 2 1156), (1156, op_al 0 1157), (1157, op_il 4 1159), (1159, op_ic 1 1160), (1160, op_bin (fun x y => x + y) 1161), (1161, op_sld L xs 1162), (1162, op_al 0 1163), (1163, op_il 4 1165), (1165, op_ic 2 1166), (1166, op_bin (fun x y => x + y) 1167), (1167, op_sld L xs 1168), (1168, op_al 0 1169), (1169, op_il 4 1171), (1171, op_ic 3 1172), (1172, op_bin (fun x y => x + y) 1173), (1173, op_sld L xs 1174), (1174, op_callVN 7 sp_X5_proof 4 0 1177), (1177, op_is 6 1179), (1179, op_al 2 1180), (1180, op_callV 7 sp_X5_thrown 1 0 1183), (1183, op_il 5 1185), (1185, op_cmp (fun x y => x = y) 1190 1188), (1188, op_ic 0 1189), (1189, op_lret), (1190, op_il 5 1192), (1192, op_if (fun x => ¬ x = 0) 1207 1195), (1195, op_al 3 1196), (1196, op_ic 0 1197), (1197, op_lald 1198), (1198, op_il 6 1200), (1200, op_i2l 1201), (1201, op_lcmp 1202), (1202, op_if (fun x => x = 0) 1207 1205), (1205, op_ic 0 1206), (1206, op_lret), (1207, op_go 2045)]
set_option maxRecDepth 20000 in
theorem tok_lawC15 {L : Nat} {xs : Nat → Int32} : ∀ q ∈ tab_lawC15 L xs, LSnd L xs RL cL_law 7 15 150256 ret q.1 q.2 := by
  unfold tab_lawC15
  refine lcons (lsnd_g (snd_g (ok_aload_n dL_law_1130 rfl rfl))) ?_
  refine lcons (lsnd_g (snd_g (ok_aload_n dL_law_1131 rfl rfl))) ?_
  refine lcons (lsnd_g (snd_g (ok_iload dL_law_1132 rfl))) ?_
  refine lcons (lsnd_g (snd_g (ok_iconst dL_law_1134 rfl rfl))) ?_
  refine lcons (lsnd_g (snd_g (ok_iadd dL_law_1135 rfl))) ?_
  refine lcons (ok_sld dL_law_1136 rfl) ?_
  refine lcons (lsnd_g (snd_g (ok_aload_n dL_law_1137 rfl rfl))) ?_
  refine lcons (lsnd_g (snd_g (ok_iload dL_law_1138 rfl))) ?_
  refine lcons (lsnd_g (snd_g (ok_iconst dL_law_1140 rfl rfl))) ?_
  refine lcons (lsnd_g (snd_g (ok_iadd dL_law_1141 rfl))) ?_
  refine lcons (ok_sld dL_law_1142 rfl) ?_
  refine lcons (lsnd_g (snd_g (ok_aload_n dL_law_1143 rfl rfl))) ?_
  refine lcons (lsnd_g (snd_g (ok_iload dL_law_1144 rfl))) ?_
  refine lcons (lsnd_g (snd_g (ok_iconst dL_law_1146 rfl rfl))) ?_
  refine lcons (lsnd_g (snd_g (ok_iadd dL_law_1147 rfl))) ?_
  refine lcons (ok_sld dL_law_1148 rfl) ?_
  refine lcons (lsnd_g (snd_g (ok_aload_n dL_law_1149 rfl rfl))) ?_
  refine lcons (ok_callL M_L_proof w_652 w_653 w_42 w_654 ⟨by decide, by decide, by decide +kernel⟩ (by decide) (by decide) dL_law_1150 rfl) ?_
  refine lcons (lsnd_g (snd_g (ok_istore dL_law_1153 (by decide) rfl))) ?_
  refine lcons (lsnd_g (snd_g (ok_aload_n dL_law_1155 rfl rfl))) ?_
  refine lcons (lsnd_g (snd_g (ok_aload_n dL_law_1156 rfl rfl))) ?_
  refine lcons (lsnd_g (snd_g (ok_iload dL_law_1157 rfl))) ?_
  refine lcons (lsnd_g (snd_g (ok_iconst dL_law_1159 rfl rfl))) ?_
  refine lcons (lsnd_g (snd_g (ok_iadd dL_law_1160 rfl))) ?_
  refine lcons (ok_sld dL_law_1161 rfl) ?_
  refine lcons (lsnd_g (snd_g (ok_aload_n dL_law_1162 rfl rfl))) ?_
  refine lcons (lsnd_g (snd_g (ok_iload dL_law_1163 rfl))) ?_
  refine lcons (lsnd_g (snd_g (ok_iconst dL_law_1165 rfl rfl))) ?_
  refine lcons (lsnd_g (snd_g (ok_iadd dL_law_1166 rfl))) ?_
  refine lcons (ok_sld dL_law_1167 rfl) ?_
  refine lcons (lsnd_g (snd_g (ok_aload_n dL_law_1168 rfl rfl))) ?_
  refine lcons (lsnd_g (snd_g (ok_iload dL_law_1169 rfl))) ?_
  refine lcons (lsnd_g (snd_g (ok_iconst dL_law_1171 rfl rfl))) ?_
  refine lcons (lsnd_g (snd_g (ok_iadd dL_law_1172 rfl))) ?_
  refine lcons (ok_sld dL_law_1173 rfl) ?_
  refine lcons (lsnd_g (snd_g (ok_invokevirtualN M_X5_proof (C := RX5) (T := TX5) (nf := 33) rfl w_1240 w_1241 w_1242 w_49 w_1243 ⟨rfl, by decide, by decide, by decide +kernel⟩ (by decide) (by decide) dL_law_1174 rfl))) ?_
  refine lcons (lsnd_g (snd_g (ok_istore dL_law_1177 (by decide) rfl))) ?_
  refine lcons (lsnd_g (snd_g (ok_aload_n dL_law_1179 rfl rfl))) ?_
  refine lcons (lsnd_g (snd_g (ok_invokevirtual M_X5_thrown (C := RX5) (T := TX5) (nf := 33) rfl w_1093 w_1094 w_1095 w_49 w_1096 ⟨rfl, by decide, by decide, by decide +kernel⟩ (by decide) (by decide) dL_law_1180 rfl))) ?_
  refine lcons (lsnd_g (snd_g (ok_iload dL_law_1183 rfl))) ?_
  refine lcons (lsnd_g (snd_g (ok_icmp_eq dL_law_1185 rfl rfl))) ?_
  refine lcons (lsnd_g (snd_g (ok_iconst dL_law_1188 rfl rfl))) ?_
  refine lcons (ok_lret dL_law_1189) ?_
  refine lcons (lsnd_g (snd_g (ok_iload dL_law_1190 rfl))) ?_
  refine lcons (lsnd_g (snd_g (ok_if_ne dL_law_1192 rfl rfl))) ?_
  refine lcons (lsnd_g (snd_g (ok_aload_n dL_law_1195 rfl rfl))) ?_
  refine lcons (lsnd_g (snd_g (ok_iconst dL_law_1196 rfl rfl))) ?_
  refine lcons (lsnd_g (snd_g (ok_laload dL_law_1197 rfl))) ?_
  refine lcons (lsnd_g (snd_g (ok_iload dL_law_1198 rfl))) ?_
  refine lcons (lsnd_g (snd_g (ok_i2l dL_law_1200 rfl))) ?_
  refine lcons (lsnd_g (snd_g (ok_lcmp dL_law_1201 rfl))) ?_
  refine lcons (lsnd_g (snd_g (ok_if_eq dL_law_1202 rfl rfl))) ?_
  refine lcons (lsnd_g (snd_g (ok_iconst dL_law_1205 rfl rfl))) ?_
  refine lcons (ok_lret dL_law_1206) ?_
  refine lcons (lsnd_g (snd_g (ok_goto dL_law_1207 rfl))) ?_
  exact fun _ h => nomatch h
theorem dL_law_1210 : decode cL_law 1210 = .ok (.aload_n 1, 1) := by decide +kernel
theorem dL_law_1211 : decode cL_law 1211 = .ok (.aload_n 0, 1) := by decide +kernel
theorem dL_law_1212 : decode cL_law 1212 = .ok (.iload 4, 2) := by decide +kernel
theorem dL_law_1214 : decode cL_law 1214 = .ok (.iconst 1, 1) := by decide +kernel
theorem dL_law_1215 : decode cL_law 1215 = .ok (.iadd, 1) := by decide +kernel
theorem dL_law_1216 : decode cL_law 1216 = .ok (.iaload, 1) := by decide +kernel
theorem dL_law_1217 : decode cL_law 1217 = .ok (.aload_n 3, 1) := by decide +kernel
theorem dL_law_1218 : decode cL_law 1218 = .ok (.invokestatic 177, 3) := by decide +kernel
theorem dL_law_1221 : decode cL_law 1221 = .ok (.istore 5, 2) := by decide +kernel
theorem dL_law_1223 : decode cL_law 1223 = .ok (.aload_n 2, 1) := by decide +kernel
theorem dL_law_1224 : decode cL_law 1224 = .ok (.aload_n 0, 1) := by decide +kernel
theorem dL_law_1225 : decode cL_law 1225 = .ok (.iload 4, 2) := by decide +kernel
theorem dL_law_1227 : decode cL_law 1227 = .ok (.iconst 1, 1) := by decide +kernel
theorem dL_law_1228 : decode cL_law 1228 = .ok (.iadd, 1) := by decide +kernel
theorem dL_law_1229 : decode cL_law 1229 = .ok (.iaload, 1) := by decide +kernel
theorem dL_law_1230 : decode cL_law 1230 = .ok (.invokevirtual 179, 3) := by decide +kernel
theorem dL_law_1233 : decode cL_law 1233 = .ok (.istore 6, 2) := by decide +kernel
theorem dL_law_1235 : decode cL_law 1235 = .ok (.aload_n 2, 1) := by decide +kernel
theorem dL_law_1236 : decode cL_law 1236 = .ok (.invokevirtual 122, 3) := by decide +kernel
theorem dL_law_1239 : decode cL_law 1239 = .ok (.iload 5, 2) := by decide +kernel
theorem dL_law_1241 : decode cL_law 1241 = .ok (.if_icmp .eq 5, 3) := by decide +kernel
theorem dL_law_1244 : decode cL_law 1244 = .ok (.iconst 0, 1) := by decide +kernel
theorem dL_law_1245 : decode cL_law 1245 = .ok (.ireturn, 1) := by decide +kernel
theorem dL_law_1246 : decode cL_law 1246 = .ok (.iload 5, 2) := by decide +kernel
theorem dL_law_1248 : decode cL_law 1248 = .ok (.ifCond .ne 15, 3) := by decide +kernel
theorem dL_law_1251 : decode cL_law 1251 = .ok (.aload_n 3, 1) := by decide +kernel
theorem dL_law_1252 : decode cL_law 1252 = .ok (.iconst 0, 1) := by decide +kernel
theorem dL_law_1253 : decode cL_law 1253 = .ok (.laload, 1) := by decide +kernel
theorem dL_law_1254 : decode cL_law 1254 = .ok (.iload 6, 2) := by decide +kernel
theorem dL_law_1256 : decode cL_law 1256 = .ok (.i2l, 1) := by decide +kernel
theorem dL_law_1257 : decode cL_law 1257 = .ok (.lcmp, 1) := by decide +kernel
theorem dL_law_1258 : decode cL_law 1258 = .ok (.ifCond .eq 5, 3) := by decide +kernel
theorem dL_law_1261 : decode cL_law 1261 = .ok (.iconst 0, 1) := by decide +kernel
theorem dL_law_1262 : decode cL_law 1262 = .ok (.ireturn, 1) := by decide +kernel
theorem dL_law_1263 : decode cL_law 1263 = .ok (.goto 782, 3) := by decide +kernel
def tab_lawC16 (L : Nat) (xs : Nat → Int32) : List (Nat × Sem) := [(1210, op_al 1 1211), (1211, op_al 0 1212), (1212, op_il 4 1214), (1214, op_ic 1 1215), (1215, op_bin (fun x y => x + y) 1216), (1216, op_sld L xs 1217), (1217, op_al 3 1218), (1218, op_callL sp_L_publish 3 2 1221), (1221, op_is 5 1223), (1223, op_al 2 1224), (1224, op_al 0 1225), (1225, op_il 4 1227), (1227, op_ic 1 1228), (1228, op_bin (fun x y => x + y) 1229), (1229, op_sld L xs 1230), (1230, op_callVN 7 sp_X5_publish 2 0 1233), (1233, op_is 6 1235), (1235, op_al 2 1236), (1236, op_callV 7 sp_X5_thrown 1 0 1239), (1239, op_il 5 1241), (1241, op_cmp (fun x y => x = y) 1246 1244), (1244, op_ic 0 1245), (1245, op_lret), (1246, op_il 5 1248), (1248, op_if (fun x => ¬ x = 0) 1263 1251), (1251, op_al 3 1252), (1252, op_ic 0 1253), (1253, op_lald 1254), (1254, op_il 6 1256), (1256, op_i2l 1257), (1257, op_lcmp 1258), (1258, op_if (fun x => x = 0) 1263 1261), (1261, op_ic 0 1262), (1262, op_lret), (1263, op_go 2045)]
set_option maxRecDepth 20000 in
theorem tok_lawC16 {L : Nat} {xs : Nat → Int32} : ∀ q ∈ tab_lawC16 L xs, LSnd L xs RL cL_law 7 15 150256 ret q.1 q.2 := by
  unfold tab_lawC16
  refine lcons (lsnd_g (snd_g (ok_aload_n dL_law_1210 rfl rfl))) ?_
  refine lcons (lsnd_g (snd_g (ok_aload_n dL_law_1211 rfl rfl))) ?_
  refine lcons (lsnd_g (snd_g (ok_iload dL_law_1212 rfl))) ?_
  refine lcons (lsnd_g (snd_g (ok_iconst dL_law_1214 rfl rfl))) ?_
  refine lcons (lsnd_g (snd_g (ok_iadd dL_law_1215 rfl))) ?_
  refine lcons (ok_sld dL_law_1216 rfl) ?_
  refine lcons (lsnd_g (snd_g (ok_aload_n dL_law_1217 rfl rfl))) ?_
  refine lcons (ok_callL M_L_publish w_659 w_660 w_42 w_661 ⟨by decide, by decide, by decide +kernel⟩ (by decide) (by decide) dL_law_1218 rfl) ?_
  refine lcons (lsnd_g (snd_g (ok_istore dL_law_1221 (by decide) rfl))) ?_
  refine lcons (lsnd_g (snd_g (ok_aload_n dL_law_1223 rfl rfl))) ?_
  refine lcons (lsnd_g (snd_g (ok_aload_n dL_law_1224 rfl rfl))) ?_
  refine lcons (lsnd_g (snd_g (ok_iload dL_law_1225 rfl))) ?_
  refine lcons (lsnd_g (snd_g (ok_iconst dL_law_1227 rfl rfl))) ?_
  refine lcons (lsnd_g (snd_g (ok_iadd dL_law_1228 rfl))) ?_
  refine lcons (ok_sld dL_law_1229 rfl) ?_
  refine lcons (lsnd_g (snd_g (ok_invokevirtualN M_X5_publish (C := RX5) (T := TX5) (nf := 33) rfl w_1247 w_1248 w_1249 w_49 w_1250 ⟨rfl, by decide, by decide, by decide +kernel⟩ (by decide) (by decide) dL_law_1230 rfl))) ?_
  refine lcons (lsnd_g (snd_g (ok_istore dL_law_1233 (by decide) rfl))) ?_
  refine lcons (lsnd_g (snd_g (ok_aload_n dL_law_1235 rfl rfl))) ?_
  refine lcons (lsnd_g (snd_g (ok_invokevirtual M_X5_thrown (C := RX5) (T := TX5) (nf := 33) rfl w_1093 w_1094 w_1095 w_49 w_1096 ⟨rfl, by decide, by decide, by decide +kernel⟩ (by decide) (by decide) dL_law_1236 rfl))) ?_
  refine lcons (lsnd_g (snd_g (ok_iload dL_law_1239 rfl))) ?_
  refine lcons (lsnd_g (snd_g (ok_icmp_eq dL_law_1241 rfl rfl))) ?_
  refine lcons (lsnd_g (snd_g (ok_iconst dL_law_1244 rfl rfl))) ?_
  refine lcons (ok_lret dL_law_1245) ?_
  refine lcons (lsnd_g (snd_g (ok_iload dL_law_1246 rfl))) ?_
  refine lcons (lsnd_g (snd_g (ok_if_ne dL_law_1248 rfl rfl))) ?_
  refine lcons (lsnd_g (snd_g (ok_aload_n dL_law_1251 rfl rfl))) ?_
  refine lcons (lsnd_g (snd_g (ok_iconst dL_law_1252 rfl rfl))) ?_
  refine lcons (lsnd_g (snd_g (ok_laload dL_law_1253 rfl))) ?_
  refine lcons (lsnd_g (snd_g (ok_iload dL_law_1254 rfl))) ?_
  refine lcons (lsnd_g (snd_g (ok_i2l dL_law_1256 rfl))) ?_
  refine lcons (lsnd_g (snd_g (ok_lcmp dL_law_1257 rfl))) ?_
  refine lcons (lsnd_g (snd_g (ok_if_eq dL_law_1258 rfl rfl))) ?_
  refine lcons (lsnd_g (snd_g (ok_iconst dL_law_1261 rfl rfl))) ?_
  refine lcons (ok_lret dL_law_1262) ?_
  refine lcons (lsnd_g (snd_g (ok_goto dL_law_1263 rfl))) ?_
  exact fun _ h => nomatch h
theorem dL_law_1266 : decode cL_law 1266 = .ok (.aload_n 1, 1) := by decide +kernel
theorem dL_law_1267 : decode cL_law 1267 = .ok (.aload_n 0, 1) := by decide +kernel
theorem dL_law_1268 : decode cL_law 1268 = .ok (.iload 4, 2) := by decide +kernel
theorem dL_law_1270 : decode cL_law 1270 = .ok (.iconst 1, 1) := by decide +kernel
theorem dL_law_1271 : decode cL_law 1271 = .ok (.iadd, 1) := by decide +kernel
theorem dL_law_1272 : decode cL_law 1272 = .ok (.iaload, 1) := by decide +kernel
theorem dL_law_1273 : decode cL_law 1273 = .ok (.aload_n 0, 1) := by decide +kernel
theorem dL_law_1274 : decode cL_law 1274 = .ok (.iload 4, 2) := by decide +kernel
theorem dL_law_1276 : decode cL_law 1276 = .ok (.iconst 2, 1) := by decide +kernel
theorem dL_law_1277 : decode cL_law 1277 = .ok (.iadd, 1) := by decide +kernel
theorem dL_law_1278 : decode cL_law 1278 = .ok (.iaload, 1) := by decide +kernel
theorem dL_law_1279 : decode cL_law 1279 = .ok (.aload_n 0, 1) := by decide +kernel
theorem dL_law_1280 : decode cL_law 1280 = .ok (.iload 4, 2) := by decide +kernel
theorem dL_law_1282 : decode cL_law 1282 = .ok (.iconst 3, 1) := by decide +kernel
theorem dL_law_1283 : decode cL_law 1283 = .ok (.iadd, 1) := by decide +kernel
theorem dL_law_1284 : decode cL_law 1284 = .ok (.iaload, 1) := by decide +kernel
theorem dL_law_1285 : decode cL_law 1285 = .ok (.aload_n 3, 1) := by decide +kernel
theorem dL_law_1286 : decode cL_law 1286 = .ok (.invokestatic 180, 3) := by decide +kernel
theorem dL_law_1289 : decode cL_law 1289 = .ok (.istore 5, 2) := by decide +kernel
theorem dL_law_1291 : decode cL_law 1291 = .ok (.aload_n 2, 1) := by decide +kernel
theorem dL_law_1292 : decode cL_law 1292 = .ok (.aload_n 0, 1) := by decide +kernel
theorem dL_law_1293 : decode cL_law 1293 = .ok (.iload 4, 2) := by decide +kernel
theorem dL_law_1295 : decode cL_law 1295 = .ok (.iconst 1, 1) := by decide +kernel
theorem dL_law_1296 : decode cL_law 1296 = .ok (.iadd, 1) := by decide +kernel
theorem dL_law_1297 : decode cL_law 1297 = .ok (.iaload, 1) := by decide +kernel
theorem dL_law_1298 : decode cL_law 1298 = .ok (.aload_n 0, 1) := by decide +kernel
theorem dL_law_1299 : decode cL_law 1299 = .ok (.iload 4, 2) := by decide +kernel
theorem dL_law_1301 : decode cL_law 1301 = .ok (.iconst 2, 1) := by decide +kernel
theorem dL_law_1302 : decode cL_law 1302 = .ok (.iadd, 1) := by decide +kernel
theorem dL_law_1303 : decode cL_law 1303 = .ok (.iaload, 1) := by decide +kernel
theorem dL_law_1304 : decode cL_law 1304 = .ok (.aload_n 0, 1) := by decide +kernel
theorem dL_law_1305 : decode cL_law 1305 = .ok (.iload 4, 2) := by decide +kernel
theorem dL_law_1307 : decode cL_law 1307 = .ok (.iconst 3, 1) := by decide +kernel
theorem dL_law_1308 : decode cL_law 1308 = .ok (.iadd, 1) := by decide +kernel
theorem dL_law_1309 : decode cL_law 1309 = .ok (.iaload, 1) := by decide +kernel
theorem dL_law_1310 : decode cL_law 1310 = .ok (.invokevirtual 182, 3) := by decide +kernel
theorem dL_law_1313 : decode cL_law 1313 = .ok (.istore 6, 2) := by decide +kernel
theorem dL_law_1315 : decode cL_law 1315 = .ok (.aload_n 2, 1) := by decide +kernel
theorem dL_law_1316 : decode cL_law 1316 = .ok (.invokevirtual 122, 3) := by decide +kernel
theorem dL_law_1319 : decode cL_law 1319 = .ok (.iload 5, 2) := by decide +kernel
theorem dL_law_1321 : decode cL_law 1321 = .ok (.if_icmp .eq 5, 3) := by decide +kernel
theorem dL_law_1324 : decode cL_law 1324 = .ok (.iconst 0, 1) := by decide +kernel
theorem dL_law_1325 : decode cL_law 1325 = .ok (.ireturn, 1) := by decide +kernel
theorem dL_law_1326 : decode cL_law 1326 = .ok (.iload 5, 2) := by decide +kernel
theorem dL_law_1328 : decode cL_law 1328 = .ok (.ifCond .ne 15, 3) := by decide +kernel
theorem dL_law_1331 : decode cL_law 1331 = .ok (.aload_n 3, 1) := by decide +kernel
theorem dL_law_1332 : decode cL_law 1332 = .ok (.iconst 0, 1) := by decide +kernel
theorem dL_law_1333 : decode cL_law 1333 = .ok (.laload, 1) := by decide +kernel
theorem dL_law_1334 : decode cL_law 1334 = .ok (.iload 6, 2) := by decide +kernel
theorem dL_law_1336 : decode cL_law 1336 = .ok (.i2l, 1) := by decide +kernel
theorem dL_law_1337 : decode cL_law 1337 = .ok (.lcmp, 1) := by decide +kernel
theorem dL_law_1338 : decode cL_law 1338 = .ok (.ifCond .eq 5, 3) := by decide +kernel
theorem dL_law_1341 : decode cL_law 1341 = .ok (.iconst 0, 1) := by decide +kernel
theorem dL_law_1342 : decode cL_law 1342 = .ok (.ireturn, 1) := by decide +kernel
theorem dL_law_1343 : decode cL_law 1343 = .ok (.goto 702, 3) := by decide +kernel
def tab_lawC17 (L : Nat) (xs : Nat → Int32) : List (Nat × Sem) := [(1266, op_al 1 1267), (1267, op_al 0 1268), (1268, op_il 4 1270), (1270, op_ic 1 1271), (1271, op_bin (fun x y => x + y) 1272), (1272, op_sld L xs 1273), (1273, op_al 0 1274), (1274, op_il 4 1276), (1276, op_ic 2 1277), (1277, op_bin (fun x y => x + y) 1278), (1278, op_sld L xs 1279), (1279, op_al 0 1280), (1280, op_il 4 1282), (1282, op_ic 3 1283), (1283, op_bin (fun x y => x + y) 1284), (1284, op_sld L xs 1285), (1285, op_al 3 1286), (1286, op_callL sp_L_vote 5 5 1289), (1289, op_is 5 1291), (1291, op_al 2 1292), (1292, op_al 0 1293), (1293, op_il 4 1295), (1295, op_ic 1 1296), (1296, op_bin (fun x y => x + y) 1297), (1297, op_sld L xs 1298), (1298, op_al 0 1299), (1299, op_il 4 1301), (1301, op_ic 2 1302), (1302, op_bin (fun x y => x + y) 1303), (1303, op_sld L xs 1304), (1304, op_al 0 1305), (1305, op_il 4 1307), (1307, op_ic 3 1308), (1308, op_bin (fun x y => x + y) 1309), (1309, op_sld L xs 1310), (1310, op_callVN 7 sp_X5_vote 4 0 1313), (1313, op_is 6 1315), (1315, op_al 2 1316), (1316, op_callV 7 sp_X5_thrown 1 0 1319), (1319, op_il 5 1321), (1321, op_cmp (fun x y => x = y) 1326 1324), (1324, op_ic 0 1325), (1325, op_lret), (1326, op_il 5 1328), (1328, op_if (fun x => ¬ x = 0) 1343 1331), (1331, op_al 3 1332), (1332, op_ic 0 1333), (1333, op_lald 1334), (1334, op_il 6 1336), (1336, op_i2l 1337), (1337, op_lcmp 1338), (1338, op_if (fun x => x = 0) 1343 1341), (1341, op_ic 0 1342), (1342, op_lret), (1343, op_go 2045)]
set_option maxRecDepth 20000 in
theorem tok_lawC17 {L : Nat} {xs : Nat → Int32} : ∀ q ∈ tab_lawC17 L xs, LSnd L xs RL cL_law 7 15 150256 ret q.1 q.2 := by
  unfold tab_lawC17
  refine lcons (lsnd_g (snd_g (ok_aload_n dL_law_1266 rfl rfl))) ?_
  refine lcons (lsnd_g (snd_g (ok_aload_n dL_law_1267 rfl rfl))) ?_
  refine lcons (lsnd_g (snd_g (ok_iload dL_law_1268 rfl))) ?_
  refine lcons (lsnd_g (snd_g (ok_iconst dL_law_1270 rfl rfl))) ?_
  refine lcons (lsnd_g (snd_g (ok_iadd dL_law_1271 rfl))) ?_
  refine lcons (ok_sld dL_law_1272 rfl) ?_
  refine lcons (lsnd_g (snd_g (ok_aload_n dL_law_1273 rfl rfl))) ?_
  refine lcons (lsnd_g (snd_g (ok_iload dL_law_1274 rfl))) ?_
  refine lcons (lsnd_g (snd_g (ok_iconst dL_law_1276 rfl rfl))) ?_
  refine lcons (lsnd_g (snd_g (ok_iadd dL_law_1277 rfl))) ?_
  refine lcons (ok_sld dL_law_1278 rfl) ?_
  refine lcons (lsnd_g (snd_g (ok_aload_n dL_law_1279 rfl rfl))) ?_
  refine lcons (lsnd_g (snd_g (ok_iload dL_law_1280 rfl))) ?_
  refine lcons (lsnd_g (snd_g (ok_iconst dL_law_1282 rfl rfl))) ?_
  refine lcons (lsnd_g (snd_g (ok_iadd dL_law_1283 rfl))) ?_
  refine lcons (ok_sld dL_law_1284 rfl) ?_
  refine lcons (lsnd_g (snd_g (ok_aload_n dL_law_1285 rfl rfl))) ?_
  refine lcons (ok_callL M_L_vote w_670 w_671 w_42 w_672 ⟨by decide, by decide, by decide +kernel⟩ (by decide) (by decide) dL_law_1286 rfl) ?_
  refine lcons (lsnd_g (snd_g (ok_istore dL_law_1289 (by decide) rfl))) ?_
  refine lcons (lsnd_g (snd_g (ok_aload_n dL_law_1291 rfl rfl))) ?_
  refine lcons (lsnd_g (snd_g (ok_aload_n dL_law_1292 rfl rfl))) ?_
  refine lcons (lsnd_g (snd_g (ok_iload dL_law_1293 rfl))) ?_
  refine lcons (lsnd_g (snd_g (ok_iconst dL_law_1295 rfl rfl))) ?_
  refine lcons (lsnd_g (snd_g (ok_iadd dL_law_1296 rfl))) ?_
  refine lcons (ok_sld dL_law_1297 rfl) ?_
  refine lcons (lsnd_g (snd_g (ok_aload_n dL_law_1298 rfl rfl))) ?_
  refine lcons (lsnd_g (snd_g (ok_iload dL_law_1299 rfl))) ?_
  refine lcons (lsnd_g (snd_g (ok_iconst dL_law_1301 rfl rfl))) ?_
  refine lcons (lsnd_g (snd_g (ok_iadd dL_law_1302 rfl))) ?_
  refine lcons (ok_sld dL_law_1303 rfl) ?_
  refine lcons (lsnd_g (snd_g (ok_aload_n dL_law_1304 rfl rfl))) ?_
  refine lcons (lsnd_g (snd_g (ok_iload dL_law_1305 rfl))) ?_
  refine lcons (lsnd_g (snd_g (ok_iconst dL_law_1307 rfl rfl))) ?_
  refine lcons (lsnd_g (snd_g (ok_iadd dL_law_1308 rfl))) ?_
  refine lcons (ok_sld dL_law_1309 rfl) ?_
  refine lcons (lsnd_g (snd_g (ok_invokevirtualN M_X5_vote (C := RX5) (T := TX5) (nf := 33) rfl w_1255 w_1256 w_1257 w_49 w_1258 ⟨rfl, by decide, by decide, by decide +kernel⟩ (by decide) (by decide) dL_law_1310 rfl))) ?_
  refine lcons (lsnd_g (snd_g (ok_istore dL_law_1313 (by decide) rfl))) ?_
  refine lcons (lsnd_g (snd_g (ok_aload_n dL_law_1315 rfl rfl))) ?_
  refine lcons (lsnd_g (snd_g (ok_invokevirtual M_X5_thrown (C := RX5) (T := TX5) (nf := 33) rfl w_1093 w_1094 w_1095 w_49 w_1096 ⟨rfl, by decide, by decide, by decide +kernel⟩ (by decide) (by decide) dL_law_1316 rfl))) ?_
  refine lcons (lsnd_g (snd_g (ok_iload dL_law_1319 rfl))) ?_
  refine lcons (lsnd_g (snd_g (ok_icmp_eq dL_law_1321 rfl rfl))) ?_
  refine lcons (lsnd_g (snd_g (ok_iconst dL_law_1324 rfl rfl))) ?_
  refine lcons (ok_lret dL_law_1325) ?_
  refine lcons (lsnd_g (snd_g (ok_iload dL_law_1326 rfl))) ?_
  refine lcons (lsnd_g (snd_g (ok_if_ne dL_law_1328 rfl rfl))) ?_
  refine lcons (lsnd_g (snd_g (ok_aload_n dL_law_1331 rfl rfl))) ?_
  refine lcons (lsnd_g (snd_g (ok_iconst dL_law_1332 rfl rfl))) ?_
  refine lcons (lsnd_g (snd_g (ok_laload dL_law_1333 rfl))) ?_
  refine lcons (lsnd_g (snd_g (ok_iload dL_law_1334 rfl))) ?_
  refine lcons (lsnd_g (snd_g (ok_i2l dL_law_1336 rfl))) ?_
  refine lcons (lsnd_g (snd_g (ok_lcmp dL_law_1337 rfl))) ?_
  refine lcons (lsnd_g (snd_g (ok_if_eq dL_law_1338 rfl rfl))) ?_
  refine lcons (lsnd_g (snd_g (ok_iconst dL_law_1341 rfl rfl))) ?_
  refine lcons (ok_lret dL_law_1342) ?_
  refine lcons (lsnd_g (snd_g (ok_goto dL_law_1343 rfl))) ?_
  exact fun _ h => nomatch h
theorem dL_law_1346 : decode cL_law 1346 = .ok (.aload_n 1, 1) := by decide +kernel
theorem dL_law_1347 : decode cL_law 1347 = .ok (.aload_n 0, 1) := by decide +kernel
theorem dL_law_1348 : decode cL_law 1348 = .ok (.iload 4, 2) := by decide +kernel
theorem dL_law_1350 : decode cL_law 1350 = .ok (.iconst 1, 1) := by decide +kernel
theorem dL_law_1351 : decode cL_law 1351 = .ok (.iadd, 1) := by decide +kernel
theorem dL_law_1352 : decode cL_law 1352 = .ok (.iaload, 1) := by decide +kernel
theorem dL_law_1353 : decode cL_law 1353 = .ok (.aload_n 3, 1) := by decide +kernel
theorem dL_law_1354 : decode cL_law 1354 = .ok (.invokestatic 183, 3) := by decide +kernel
theorem dL_law_1357 : decode cL_law 1357 = .ok (.istore 5, 2) := by decide +kernel
theorem dL_law_1359 : decode cL_law 1359 = .ok (.aload_n 2, 1) := by decide +kernel
theorem dL_law_1360 : decode cL_law 1360 = .ok (.aload_n 0, 1) := by decide +kernel
theorem dL_law_1361 : decode cL_law 1361 = .ok (.iload 4, 2) := by decide +kernel
theorem dL_law_1363 : decode cL_law 1363 = .ok (.iconst 1, 1) := by decide +kernel
theorem dL_law_1364 : decode cL_law 1364 = .ok (.iadd, 1) := by decide +kernel
theorem dL_law_1365 : decode cL_law 1365 = .ok (.iaload, 1) := by decide +kernel
theorem dL_law_1366 : decode cL_law 1366 = .ok (.invokevirtual 185, 3) := by decide +kernel
theorem dL_law_1369 : decode cL_law 1369 = .ok (.istore 6, 2) := by decide +kernel
theorem dL_law_1371 : decode cL_law 1371 = .ok (.aload_n 2, 1) := by decide +kernel
theorem dL_law_1372 : decode cL_law 1372 = .ok (.invokevirtual 122, 3) := by decide +kernel
theorem dL_law_1375 : decode cL_law 1375 = .ok (.iload 5, 2) := by decide +kernel
theorem dL_law_1377 : decode cL_law 1377 = .ok (.if_icmp .eq 5, 3) := by decide +kernel
theorem dL_law_1380 : decode cL_law 1380 = .ok (.iconst 0, 1) := by decide +kernel
theorem dL_law_1381 : decode cL_law 1381 = .ok (.ireturn, 1) := by decide +kernel
theorem dL_law_1382 : decode cL_law 1382 = .ok (.iload 5, 2) := by decide +kernel
theorem dL_law_1384 : decode cL_law 1384 = .ok (.ifCond .ne 15, 3) := by decide +kernel
theorem dL_law_1387 : decode cL_law 1387 = .ok (.aload_n 3, 1) := by decide +kernel
theorem dL_law_1388 : decode cL_law 1388 = .ok (.iconst 0, 1) := by decide +kernel
theorem dL_law_1389 : decode cL_law 1389 = .ok (.laload, 1) := by decide +kernel
theorem dL_law_1390 : decode cL_law 1390 = .ok (.iload 6, 2) := by decide +kernel
theorem dL_law_1392 : decode cL_law 1392 = .ok (.i2l, 1) := by decide +kernel
theorem dL_law_1393 : decode cL_law 1393 = .ok (.lcmp, 1) := by decide +kernel
theorem dL_law_1394 : decode cL_law 1394 = .ok (.ifCond .eq 5, 3) := by decide +kernel
theorem dL_law_1397 : decode cL_law 1397 = .ok (.iconst 0, 1) := by decide +kernel
theorem dL_law_1398 : decode cL_law 1398 = .ok (.ireturn, 1) := by decide +kernel
theorem dL_law_1399 : decode cL_law 1399 = .ok (.goto 646, 3) := by decide +kernel
def tab_lawC18 (L : Nat) (xs : Nat → Int32) : List (Nat × Sem) := [(1346, op_al 1 1347), (1347, op_al 0 1348), (1348, op_il 4 1350), (1350, op_ic 1 1351), (1351, op_bin (fun x y => x + y) 1352), (1352, op_sld L xs 1353), (1353, op_al 3 1354), (1354, op_callL sp_L_sentence 3 3 1357), (1357, op_is 5 1359), (1359, op_al 2 1360), (1360, op_al 0 1361), (1361, op_il 4 1363), (1363, op_ic 1 1364), (1364, op_bin (fun x y => x + y) 1365), (1365, op_sld L xs 1366), (1366, op_callVN 7 sp_X5_sentence 2 0 1369), (1369, op_is 6 1371), (1371, op_al 2 1372), (1372, op_callV 7 sp_X5_thrown 1 0 1375), (1375, op_il 5 1377), (1377, op_cmp (fun x y => x = y) 1382 1380), (1380, op_ic 0 1381), (1381, op_lret), (1382, op_il 5 1384), (1384, op_if (fun x => ¬ x = 0) 1399 1387), (1387, op_al 3 1388), (1388, op_ic 0 1389), (1389, op_lald 1390), (1390, op_il 6 1392), (1392, op_i2l 1393), (1393, op_lcmp 1394), (1394, op_if (fun x => x = 0) 1399 1397), (1397, op_ic 0 1398), (1398, op_lret), (1399, op_go 2045)]
set_option maxRecDepth 20000 in
theorem tok_lawC18 {L : Nat} {xs : Nat → Int32} : ∀ q ∈ tab_lawC18 L xs, LSnd L xs RL cL_law 7 15 150256 ret q.1 q.2 := by
  unfold tab_lawC18
  refine lcons (lsnd_g (snd_g (ok_aload_n dL_law_1346 rfl rfl))) ?_
  refine lcons (lsnd_g (snd_g (ok_aload_n dL_law_1347 rfl rfl))) ?_
  refine lcons (lsnd_g (snd_g (ok_iload dL_law_1348 rfl))) ?_
  refine lcons (lsnd_g (snd_g (ok_iconst dL_law_1350 rfl rfl))) ?_
  refine lcons (lsnd_g (snd_g (ok_iadd dL_law_1351 rfl))) ?_
  refine lcons (ok_sld dL_law_1352 rfl) ?_
  refine lcons (lsnd_g (snd_g (ok_aload_n dL_law_1353 rfl rfl))) ?_
  refine lcons (ok_callL M_L_sentence w_681 w_682 w_42 w_683 ⟨by decide, by decide, by decide +kernel⟩ (by decide) (by decide) dL_law_1354 rfl) ?_
  refine lcons (lsnd_g (snd_g (ok_istore dL_law_1357 (by decide) rfl))) ?_
  refine lcons (lsnd_g (snd_g (ok_aload_n dL_law_1359 rfl rfl))) ?_
  refine lcons (lsnd_g (snd_g (ok_aload_n dL_law_1360 rfl rfl))) ?_
  refine lcons (lsnd_g (snd_g (ok_iload dL_law_1361 rfl))) ?_
  refine lcons (lsnd_g (snd_g (ok_iconst dL_law_1363 rfl rfl))) ?_
  refine lcons (lsnd_g (snd_g (ok_iadd dL_law_1364 rfl))) ?_
  refine lcons (ok_sld dL_law_1365 rfl) ?_
  refine lcons (lsnd_g (snd_g (ok_invokevirtualN M_X5_sentence (C := RX5) (T := TX5) (nf := 33) rfl w_1259 w_1260 w_1261 w_49 w_1262 ⟨rfl, by decide, by decide, by decide +kernel⟩ (by decide) (by decide) dL_law_1366 rfl))) ?_
  refine lcons (lsnd_g (snd_g (ok_istore dL_law_1369 (by decide) rfl))) ?_
  refine lcons (lsnd_g (snd_g (ok_aload_n dL_law_1371 rfl rfl))) ?_
  refine lcons (lsnd_g (snd_g (ok_invokevirtual M_X5_thrown (C := RX5) (T := TX5) (nf := 33) rfl w_1093 w_1094 w_1095 w_49 w_1096 ⟨rfl, by decide, by decide, by decide +kernel⟩ (by decide) (by decide) dL_law_1372 rfl))) ?_
  refine lcons (lsnd_g (snd_g (ok_iload dL_law_1375 rfl))) ?_
  refine lcons (lsnd_g (snd_g (ok_icmp_eq dL_law_1377 rfl rfl))) ?_
  refine lcons (lsnd_g (snd_g (ok_iconst dL_law_1380 rfl rfl))) ?_
  refine lcons (ok_lret dL_law_1381) ?_
  refine lcons (lsnd_g (snd_g (ok_iload dL_law_1382 rfl))) ?_
  refine lcons (lsnd_g (snd_g (ok_if_ne dL_law_1384 rfl rfl))) ?_
  refine lcons (lsnd_g (snd_g (ok_aload_n dL_law_1387 rfl rfl))) ?_
  refine lcons (lsnd_g (snd_g (ok_iconst dL_law_1388 rfl rfl))) ?_
  refine lcons (lsnd_g (snd_g (ok_laload dL_law_1389 rfl))) ?_
  refine lcons (lsnd_g (snd_g (ok_iload dL_law_1390 rfl))) ?_
  refine lcons (lsnd_g (snd_g (ok_i2l dL_law_1392 rfl))) ?_
  refine lcons (lsnd_g (snd_g (ok_lcmp dL_law_1393 rfl))) ?_
  refine lcons (lsnd_g (snd_g (ok_if_eq dL_law_1394 rfl rfl))) ?_
  refine lcons (lsnd_g (snd_g (ok_iconst dL_law_1397 rfl rfl))) ?_
  refine lcons (ok_lret dL_law_1398) ?_
  refine lcons (lsnd_g (snd_g (ok_goto dL_law_1399 rfl))) ?_
  exact fun _ h => nomatch h
theorem dL_law_1402 : decode cL_law 1402 = .ok (.aload_n 1, 1) := by decide +kernel
theorem dL_law_1403 : decode cL_law 1403 = .ok (.aload_n 0, 1) := by decide +kernel
theorem dL_law_1404 : decode cL_law 1404 = .ok (.iload 4, 2) := by decide +kernel
theorem dL_law_1406 : decode cL_law 1406 = .ok (.iconst 1, 1) := by decide +kernel
theorem dL_law_1407 : decode cL_law 1407 = .ok (.iadd, 1) := by decide +kernel
theorem dL_law_1408 : decode cL_law 1408 = .ok (.iaload, 1) := by decide +kernel
theorem dL_law_1409 : decode cL_law 1409 = .ok (.invokestatic 186, 3) := by decide +kernel
theorem dL_law_1412 : decode cL_law 1412 = .ok (.istore 5, 2) := by decide +kernel
theorem dL_law_1414 : decode cL_law 1414 = .ok (.aload_n 2, 1) := by decide +kernel
theorem dL_law_1415 : decode cL_law 1415 = .ok (.aload_n 0, 1) := by decide +kernel
theorem dL_law_1416 : decode cL_law 1416 = .ok (.iload 4, 2) := by decide +kernel
theorem dL_law_1418 : decode cL_law 1418 = .ok (.iconst 1, 1) := by decide +kernel
theorem dL_law_1419 : decode cL_law 1419 = .ok (.iadd, 1) := by decide +kernel
theorem dL_law_1420 : decode cL_law 1420 = .ok (.iaload, 1) := by decide +kernel
theorem dL_law_1421 : decode cL_law 1421 = .ok (.invokevirtual 188, 3) := by decide +kernel
theorem dL_law_1424 : decode cL_law 1424 = .ok (.aload_n 2, 1) := by decide +kernel
theorem dL_law_1425 : decode cL_law 1425 = .ok (.invokevirtual 122, 3) := by decide +kernel
theorem dL_law_1428 : decode cL_law 1428 = .ok (.iload 5, 2) := by decide +kernel
theorem dL_law_1430 : decode cL_law 1430 = .ok (.if_icmp .eq 5, 3) := by decide +kernel
theorem dL_law_1433 : decode cL_law 1433 = .ok (.iconst 0, 1) := by decide +kernel
theorem dL_law_1434 : decode cL_law 1434 = .ok (.ireturn, 1) := by decide +kernel
theorem dL_law_1435 : decode cL_law 1435 = .ok (.goto 610, 3) := by decide +kernel
def tab_lawC19 (L : Nat) (xs : Nat → Int32) : List (Nat × Sem) := [(1402, op_al 1 1403), (1403, op_al 0 1404), (1404, op_il 4 1406), (1406, op_ic 1 1407), (1407, op_bin (fun x y => x + y) 1408), (1408, op_sld L xs 1409), (1409, op_callL sp_L_appeal 2 4 1412), (1412, op_is 5 1414), (1414, op_al 2 1415), (1415, op_al 0 1416), (1416, op_il 4 1418), (1418, op_ic 1 1419), (1419, op_bin (fun x y => x + y) 1420), (1420, op_sld L xs 1421), (1421, op_callVN 7 sp_X5_appeal 2 0 1424), (1424, op_al 2 1425), (1425, op_callV 7 sp_X5_thrown 1 0 1428), (1428, op_il 5 1430), (1430, op_cmp (fun x y => x = y) 1435 1433), (1433, op_ic 0 1434), (1434, op_lret), (1435, op_go 2045)]
set_option maxRecDepth 20000 in
theorem tok_lawC19 {L : Nat} {xs : Nat → Int32} : ∀ q ∈ tab_lawC19 L xs, LSnd L xs RL cL_law 7 15 150256 ret q.1 q.2 := by
  unfold tab_lawC19
  refine lcons (lsnd_g (snd_g (ok_aload_n dL_law_1402 rfl rfl))) ?_
  refine lcons (lsnd_g (snd_g (ok_aload_n dL_law_1403 rfl rfl))) ?_
  refine lcons (lsnd_g (snd_g (ok_iload dL_law_1404 rfl))) ?_
  refine lcons (lsnd_g (snd_g (ok_iconst dL_law_1406 rfl rfl))) ?_
  refine lcons (lsnd_g (snd_g (ok_iadd dL_law_1407 rfl))) ?_
  refine lcons (ok_sld dL_law_1408 rfl) ?_
  refine lcons (ok_callL M_L_appeal w_715 w_716 w_42 w_717 ⟨by decide, by decide, by decide +kernel⟩ (by decide) (by decide) dL_law_1409 rfl) ?_
  refine lcons (lsnd_g (snd_g (ok_istore dL_law_1412 (by decide) rfl))) ?_
  refine lcons (lsnd_g (snd_g (ok_aload_n dL_law_1414 rfl rfl))) ?_
  refine lcons (lsnd_g (snd_g (ok_aload_n dL_law_1415 rfl rfl))) ?_
  refine lcons (lsnd_g (snd_g (ok_iload dL_law_1416 rfl))) ?_
  refine lcons (lsnd_g (snd_g (ok_iconst dL_law_1418 rfl rfl))) ?_
  refine lcons (lsnd_g (snd_g (ok_iadd dL_law_1419 rfl))) ?_
  refine lcons (ok_sld dL_law_1420 rfl) ?_
  refine lcons (lsnd_g (snd_g (ok_invokevirtualN M_X5_appeal (C := RX5) (T := TX5) (nf := 33) rfl w_1277 w_1278 w_1279 w_49 w_1280 ⟨rfl, by decide, by decide, by decide +kernel⟩ (by decide) (by decide) dL_law_1421 rfl))) ?_
  refine lcons (lsnd_g (snd_g (ok_aload_n dL_law_1424 rfl rfl))) ?_
  refine lcons (lsnd_g (snd_g (ok_invokevirtual M_X5_thrown (C := RX5) (T := TX5) (nf := 33) rfl w_1093 w_1094 w_1095 w_49 w_1096 ⟨rfl, by decide, by decide, by decide +kernel⟩ (by decide) (by decide) dL_law_1425 rfl))) ?_
  refine lcons (lsnd_g (snd_g (ok_iload dL_law_1428 rfl))) ?_
  refine lcons (lsnd_g (snd_g (ok_icmp_eq dL_law_1430 rfl rfl))) ?_
  refine lcons (lsnd_g (snd_g (ok_iconst dL_law_1433 rfl rfl))) ?_
  refine lcons (ok_lret dL_law_1434) ?_
  refine lcons (lsnd_g (snd_g (ok_goto dL_law_1435 rfl))) ?_
  exact fun _ h => nomatch h
theorem dL_law_1438 : decode cL_law 1438 = .ok (.aload_n 1, 1) := by decide +kernel
theorem dL_law_1439 : decode cL_law 1439 = .ok (.aload_n 0, 1) := by decide +kernel
theorem dL_law_1440 : decode cL_law 1440 = .ok (.iload 4, 2) := by decide +kernel
theorem dL_law_1442 : decode cL_law 1442 = .ok (.iconst 1, 1) := by decide +kernel
theorem dL_law_1443 : decode cL_law 1443 = .ok (.iadd, 1) := by decide +kernel
theorem dL_law_1444 : decode cL_law 1444 = .ok (.iaload, 1) := by decide +kernel
theorem dL_law_1445 : decode cL_law 1445 = .ok (.aload_n 3, 1) := by decide +kernel
theorem dL_law_1446 : decode cL_law 1446 = .ok (.invokestatic 189, 3) := by decide +kernel
theorem dL_law_1449 : decode cL_law 1449 = .ok (.istore 5, 2) := by decide +kernel
theorem dL_law_1451 : decode cL_law 1451 = .ok (.aload_n 2, 1) := by decide +kernel
theorem dL_law_1452 : decode cL_law 1452 = .ok (.aload_n 0, 1) := by decide +kernel
theorem dL_law_1453 : decode cL_law 1453 = .ok (.iload 4, 2) := by decide +kernel
theorem dL_law_1455 : decode cL_law 1455 = .ok (.iconst 1, 1) := by decide +kernel
theorem dL_law_1456 : decode cL_law 1456 = .ok (.iadd, 1) := by decide +kernel
theorem dL_law_1457 : decode cL_law 1457 = .ok (.iaload, 1) := by decide +kernel
theorem dL_law_1458 : decode cL_law 1458 = .ok (.invokevirtual 191, 3) := by decide +kernel
theorem dL_law_1461 : decode cL_law 1461 = .ok (.istore 6, 2) := by decide +kernel
theorem dL_law_1463 : decode cL_law 1463 = .ok (.aload_n 2, 1) := by decide +kernel
theorem dL_law_1464 : decode cL_law 1464 = .ok (.invokevirtual 122, 3) := by decide +kernel
theorem dL_law_1467 : decode cL_law 1467 = .ok (.iload 5, 2) := by decide +kernel
theorem dL_law_1469 : decode cL_law 1469 = .ok (.if_icmp .eq 5, 3) := by decide +kernel
theorem dL_law_1472 : decode cL_law 1472 = .ok (.iconst 0, 1) := by decide +kernel
theorem dL_law_1473 : decode cL_law 1473 = .ok (.ireturn, 1) := by decide +kernel
theorem dL_law_1474 : decode cL_law 1474 = .ok (.iload 5, 2) := by decide +kernel
theorem dL_law_1476 : decode cL_law 1476 = .ok (.ifCond .ne 15, 3) := by decide +kernel
theorem dL_law_1479 : decode cL_law 1479 = .ok (.aload_n 3, 1) := by decide +kernel
theorem dL_law_1480 : decode cL_law 1480 = .ok (.iconst 0, 1) := by decide +kernel
theorem dL_law_1481 : decode cL_law 1481 = .ok (.laload, 1) := by decide +kernel
theorem dL_law_1482 : decode cL_law 1482 = .ok (.iload 6, 2) := by decide +kernel
theorem dL_law_1484 : decode cL_law 1484 = .ok (.i2l, 1) := by decide +kernel
theorem dL_law_1485 : decode cL_law 1485 = .ok (.lcmp, 1) := by decide +kernel
theorem dL_law_1486 : decode cL_law 1486 = .ok (.ifCond .eq 5, 3) := by decide +kernel
theorem dL_law_1489 : decode cL_law 1489 = .ok (.iconst 0, 1) := by decide +kernel
theorem dL_law_1490 : decode cL_law 1490 = .ok (.ireturn, 1) := by decide +kernel
theorem dL_law_1491 : decode cL_law 1491 = .ok (.goto 554, 3) := by decide +kernel
def tab_lawC20 (L : Nat) (xs : Nat → Int32) : List (Nat × Sem) := [(1438, op_al 1 1439), (1439, op_al 0 1440), (1440, op_il 4 1442), (1442, op_ic 1 1443), (1443, op_bin (fun x y => x + y) 1444), (1444, op_sld L xs 1445), (1445, op_al 3 1446), (1446, op_callL sp_L_pass 3 1 1449), (1449, op_is 5 1451), (1451, op_al 2 1452), (1452, op_al 0 1453), (1453, op_il 4 1455), (1455, op_ic 1 1456), (1456, op_bin (fun x y => x + y) 1457), (1457, op_sld L xs 1458), (1458, op_callVN 7 sp_X5_pass 2 0 1461), (1461, op_is 6 1463), (1463, op_al 2 1464), (1464, op_callV 7 sp_X5_thrown 1 0 1467), (1467, op_il 5 1469), (1469, op_cmp (fun x y => x = y) 1474 1472), (1472, op_ic 0 1473), (1473, op_lret), (1474, op_il 5 1476), (1476, op_if (fun x => ¬ x = 0) 1491 1479), (1479, op_al 3 1480), (1480, op_ic 0 1481), (1481, op_lald 1482), (1482, op_il 6 1484), (1484, op_i2l 1485), (1485, op_lcmp 1486), (1486, op_if (fun x => x = 0) 1491 1489), (1489, op_ic 0 1490), (1490, op_lret), (1491, op_go 2045)]
set_option maxRecDepth 20000 in
theorem tok_lawC20 {L : Nat} {xs : Nat → Int32} : ∀ q ∈ tab_lawC20 L xs, LSnd L xs RL cL_law 7 15 150256 ret q.1 q.2 := by
  unfold tab_lawC20
  refine lcons (lsnd_g (snd_g (ok_aload_n dL_law_1438 rfl rfl))) ?_
  refine lcons (lsnd_g (snd_g (ok_aload_n dL_law_1439 rfl rfl))) ?_
  refine lcons (lsnd_g (snd_g (ok_iload dL_law_1440 rfl))) ?_
  refine lcons (lsnd_g (snd_g (ok_iconst dL_law_1442 rfl rfl))) ?_
  refine lcons (lsnd_g (snd_g (ok_iadd dL_law_1443 rfl))) ?_
  refine lcons (ok_sld dL_law_1444 rfl) ?_
  refine lcons (lsnd_g (snd_g (ok_aload_n dL_law_1445 rfl rfl))) ?_
  refine lcons (ok_callL M_L_pass w_723 w_724 w_42 w_725 ⟨by decide, by decide, by decide +kernel⟩ (by decide) (by decide) dL_law_1446 rfl) ?_
  refine lcons (lsnd_g (snd_g (ok_istore dL_law_1449 (by decide) rfl))) ?_
  refine lcons (lsnd_g (snd_g (ok_aload_n dL_law_1451 rfl rfl))) ?_
  refine lcons (lsnd_g (snd_g (ok_aload_n dL_law_1452 rfl rfl))) ?_
  refine lcons (lsnd_g (snd_g (ok_iload dL_law_1453 rfl))) ?_
  refine lcons (lsnd_g (snd_g (ok_iconst dL_law_1455 rfl rfl))) ?_
  refine lcons (lsnd_g (snd_g (ok_iadd dL_law_1456 rfl))) ?_
  refine lcons (ok_sld dL_law_1457 rfl) ?_
  refine lcons (lsnd_g (snd_g (ok_invokevirtualN M_X5_pass (C := RX5) (T := TX5) (nf := 33) rfl w_1281 w_1282 w_1283 w_49 w_1284 ⟨rfl, by decide, by decide, by decide +kernel⟩ (by decide) (by decide) dL_law_1458 rfl))) ?_
  refine lcons (lsnd_g (snd_g (ok_istore dL_law_1461 (by decide) rfl))) ?_
  refine lcons (lsnd_g (snd_g (ok_aload_n dL_law_1463 rfl rfl))) ?_
  refine lcons (lsnd_g (snd_g (ok_invokevirtual M_X5_thrown (C := RX5) (T := TX5) (nf := 33) rfl w_1093 w_1094 w_1095 w_49 w_1096 ⟨rfl, by decide, by decide, by decide +kernel⟩ (by decide) (by decide) dL_law_1464 rfl))) ?_
  refine lcons (lsnd_g (snd_g (ok_iload dL_law_1467 rfl))) ?_
  refine lcons (lsnd_g (snd_g (ok_icmp_eq dL_law_1469 rfl rfl))) ?_
  refine lcons (lsnd_g (snd_g (ok_iconst dL_law_1472 rfl rfl))) ?_
  refine lcons (ok_lret dL_law_1473) ?_
  refine lcons (lsnd_g (snd_g (ok_iload dL_law_1474 rfl))) ?_
  refine lcons (lsnd_g (snd_g (ok_if_ne dL_law_1476 rfl rfl))) ?_
  refine lcons (lsnd_g (snd_g (ok_aload_n dL_law_1479 rfl rfl))) ?_
  refine lcons (lsnd_g (snd_g (ok_iconst dL_law_1480 rfl rfl))) ?_
  refine lcons (lsnd_g (snd_g (ok_laload dL_law_1481 rfl))) ?_
  refine lcons (lsnd_g (snd_g (ok_iload dL_law_1482 rfl))) ?_
  refine lcons (lsnd_g (snd_g (ok_i2l dL_law_1484 rfl))) ?_
  refine lcons (lsnd_g (snd_g (ok_lcmp dL_law_1485 rfl))) ?_
  refine lcons (lsnd_g (snd_g (ok_if_eq dL_law_1486 rfl rfl))) ?_
  refine lcons (lsnd_g (snd_g (ok_iconst dL_law_1489 rfl rfl))) ?_
  refine lcons (ok_lret dL_law_1490) ?_
  refine lcons (lsnd_g (snd_g (ok_goto dL_law_1491 rfl))) ?_
  exact fun _ h => nomatch h
theorem dL_law_1494 : decode cL_law 1494 = .ok (.aload_n 1, 1) := by decide +kernel
theorem dL_law_1495 : decode cL_law 1495 = .ok (.aload_n 0, 1) := by decide +kernel
theorem dL_law_1496 : decode cL_law 1496 = .ok (.iload 4, 2) := by decide +kernel
theorem dL_law_1498 : decode cL_law 1498 = .ok (.iconst 1, 1) := by decide +kernel
theorem dL_law_1499 : decode cL_law 1499 = .ok (.iadd, 1) := by decide +kernel
theorem dL_law_1500 : decode cL_law 1500 = .ok (.iaload, 1) := by decide +kernel
theorem dL_law_1501 : decode cL_law 1501 = .ok (.aload_n 0, 1) := by decide +kernel
theorem dL_law_1502 : decode cL_law 1502 = .ok (.iload 4, 2) := by decide +kernel
theorem dL_law_1504 : decode cL_law 1504 = .ok (.iconst 2, 1) := by decide +kernel
theorem dL_law_1505 : decode cL_law 1505 = .ok (.iadd, 1) := by decide +kernel
theorem dL_law_1506 : decode cL_law 1506 = .ok (.iaload, 1) := by decide +kernel
theorem dL_law_1507 : decode cL_law 1507 = .ok (.aload_n 3, 1) := by decide +kernel
theorem dL_law_1508 : decode cL_law 1508 = .ok (.invokestatic 192, 3) := by decide +kernel
theorem dL_law_1511 : decode cL_law 1511 = .ok (.istore 5, 2) := by decide +kernel
theorem dL_law_1513 : decode cL_law 1513 = .ok (.aload_n 2, 1) := by decide +kernel
theorem dL_law_1514 : decode cL_law 1514 = .ok (.aload_n 0, 1) := by decide +kernel
theorem dL_law_1515 : decode cL_law 1515 = .ok (.iload 4, 2) := by decide +kernel
theorem dL_law_1517 : decode cL_law 1517 = .ok (.iconst 1, 1) := by decide +kernel
theorem dL_law_1518 : decode cL_law 1518 = .ok (.iadd, 1) := by decide +kernel
theorem dL_law_1519 : decode cL_law 1519 = .ok (.iaload, 1) := by decide +kernel
theorem dL_law_1520 : decode cL_law 1520 = .ok (.aload_n 0, 1) := by decide +kernel
theorem dL_law_1521 : decode cL_law 1521 = .ok (.iload 4, 2) := by decide +kernel
theorem dL_law_1523 : decode cL_law 1523 = .ok (.iconst 2, 1) := by decide +kernel
theorem dL_law_1524 : decode cL_law 1524 = .ok (.iadd, 1) := by decide +kernel
theorem dL_law_1525 : decode cL_law 1525 = .ok (.iaload, 1) := by decide +kernel
theorem dL_law_1526 : decode cL_law 1526 = .ok (.invokevirtual 194, 3) := by decide +kernel
theorem dL_law_1529 : decode cL_law 1529 = .ok (.istore 6, 2) := by decide +kernel
theorem dL_law_1531 : decode cL_law 1531 = .ok (.aload_n 2, 1) := by decide +kernel
theorem dL_law_1532 : decode cL_law 1532 = .ok (.invokevirtual 122, 3) := by decide +kernel
theorem dL_law_1535 : decode cL_law 1535 = .ok (.iload 5, 2) := by decide +kernel
theorem dL_law_1537 : decode cL_law 1537 = .ok (.if_icmp .eq 5, 3) := by decide +kernel
theorem dL_law_1540 : decode cL_law 1540 = .ok (.iconst 0, 1) := by decide +kernel
theorem dL_law_1541 : decode cL_law 1541 = .ok (.ireturn, 1) := by decide +kernel
theorem dL_law_1542 : decode cL_law 1542 = .ok (.iload 5, 2) := by decide +kernel
theorem dL_law_1544 : decode cL_law 1544 = .ok (.ifCond .ne 15, 3) := by decide +kernel
theorem dL_law_1547 : decode cL_law 1547 = .ok (.aload_n 3, 1) := by decide +kernel
theorem dL_law_1548 : decode cL_law 1548 = .ok (.iconst 0, 1) := by decide +kernel
theorem dL_law_1549 : decode cL_law 1549 = .ok (.laload, 1) := by decide +kernel
theorem dL_law_1550 : decode cL_law 1550 = .ok (.iload 6, 2) := by decide +kernel
theorem dL_law_1552 : decode cL_law 1552 = .ok (.i2l, 1) := by decide +kernel
theorem dL_law_1553 : decode cL_law 1553 = .ok (.lcmp, 1) := by decide +kernel
theorem dL_law_1554 : decode cL_law 1554 = .ok (.ifCond .eq 5, 3) := by decide +kernel
theorem dL_law_1557 : decode cL_law 1557 = .ok (.iconst 0, 1) := by decide +kernel
theorem dL_law_1558 : decode cL_law 1558 = .ok (.ireturn, 1) := by decide +kernel
theorem dL_law_1559 : decode cL_law 1559 = .ok (.goto 486, 3) := by decide +kernel
def tab_lawC21 (L : Nat) (xs : Nat → Int32) : List (Nat × Sem) := [(1494, op_al 1 1495), (1495, op_al 0 1496), (1496, op_il 4 1498), (1498, op_ic 1 1499), (1499, op_bin (fun x y => x + y) 1500), (1500, op_sld L xs 1501), (1501, op_al 0 1502), (1502, op_il 4 1504), (1504, op_ic 2 1505), (1505, op_bin (fun x y => x + y) 1506), (1506, op_sld L xs 1507), (1507, op_al 3 1508), (1508, op_callL sp_L_kin 4 1 1511), (1511, op_is 5 1513), (1513, op_al 2 1514), (1514, op_al 0 1515), (1515, op_il 4 1517), (1517, op_ic 1 1518), (1518, op_bin (fun x y => x + y) 1519), (1519, op_sld L xs 1520), (1520, op_al 0 1521), (1521, op_il 4 1523), (1523, op_ic 2 1524), (1524, op_bin (fun x y => x + y) 1525), (1525, op_sld L xs 1526), (1526, op_callVN 7 sp_X5_kin 3 0 1529), (1529, op_is 6 1531), (1531, op_al 2 1532), (1532, op_callV 7 sp_X5_thrown 1 0 1535), (1535, op_il 5 1537), (1537, op_cmp (fun x y => x = y) 1542 1540), (1540, op_ic 0 1541), (1541, op_lret), (1542, op_il 5 1544), (1544, op_if (fun x => ¬ x = 0) 1559 1547), (1547, op_al 3 1548), (1548, op_ic 0 1549), (1549, op_lald 1550), (1550, op_il 6 1552), (1552, op_i2l 1553), (1553, op_lcmp 1554), (1554, op_if (fun x => x = 0) 1559 1557), (1557, op_ic 0 1558), (1558, op_lret), (1559, op_go 2045)]
set_option maxRecDepth 20000 in
theorem tok_lawC21 {L : Nat} {xs : Nat → Int32} : ∀ q ∈ tab_lawC21 L xs, LSnd L xs RL cL_law 7 15 150256 ret q.1 q.2 := by
  unfold tab_lawC21
  refine lcons (lsnd_g (snd_g (ok_aload_n dL_law_1494 rfl rfl))) ?_
  refine lcons (lsnd_g (snd_g (ok_aload_n dL_law_1495 rfl rfl))) ?_
  refine lcons (lsnd_g (snd_g (ok_iload dL_law_1496 rfl))) ?_
  refine lcons (lsnd_g (snd_g (ok_iconst dL_law_1498 rfl rfl))) ?_
  refine lcons (lsnd_g (snd_g (ok_iadd dL_law_1499 rfl))) ?_
  refine lcons (ok_sld dL_law_1500 rfl) ?_
  refine lcons (lsnd_g (snd_g (ok_aload_n dL_law_1501 rfl rfl))) ?_
  refine lcons (lsnd_g (snd_g (ok_iload dL_law_1502 rfl))) ?_
  refine lcons (lsnd_g (snd_g (ok_iconst dL_law_1504 rfl rfl))) ?_
  refine lcons (lsnd_g (snd_g (ok_iadd dL_law_1505 rfl))) ?_
  refine lcons (ok_sld dL_law_1506 rfl) ?_
  refine lcons (lsnd_g (snd_g (ok_aload_n dL_law_1507 rfl rfl))) ?_
  refine lcons (ok_callL M_L_kin w_730 w_731 w_42 w_732 ⟨by decide, by decide, by decide +kernel⟩ (by decide) (by decide) dL_law_1508 rfl) ?_
  refine lcons (lsnd_g (snd_g (ok_istore dL_law_1511 (by decide) rfl))) ?_
  refine lcons (lsnd_g (snd_g (ok_aload_n dL_law_1513 rfl rfl))) ?_
  refine lcons (lsnd_g (snd_g (ok_aload_n dL_law_1514 rfl rfl))) ?_
  refine lcons (lsnd_g (snd_g (ok_iload dL_law_1515 rfl))) ?_
  refine lcons (lsnd_g (snd_g (ok_iconst dL_law_1517 rfl rfl))) ?_
  refine lcons (lsnd_g (snd_g (ok_iadd dL_law_1518 rfl))) ?_
  refine lcons (ok_sld dL_law_1519 rfl) ?_
  refine lcons (lsnd_g (snd_g (ok_aload_n dL_law_1520 rfl rfl))) ?_
  refine lcons (lsnd_g (snd_g (ok_iload dL_law_1521 rfl))) ?_
  refine lcons (lsnd_g (snd_g (ok_iconst dL_law_1523 rfl rfl))) ?_
  refine lcons (lsnd_g (snd_g (ok_iadd dL_law_1524 rfl))) ?_
  refine lcons (ok_sld dL_law_1525 rfl) ?_
  refine lcons (lsnd_g (snd_g (ok_invokevirtualN M_X5_kin (C := RX5) (T := TX5) (nf := 33) rfl w_1285 w_1286 w_1287 w_49 w_1288 ⟨rfl, by decide, by decide, by decide +kernel⟩ (by decide) (by decide) dL_law_1526 rfl))) ?_
  refine lcons (lsnd_g (snd_g (ok_istore dL_law_1529 (by decide) rfl))) ?_
  refine lcons (lsnd_g (snd_g (ok_aload_n dL_law_1531 rfl rfl))) ?_
  refine lcons (lsnd_g (snd_g (ok_invokevirtual M_X5_thrown (C := RX5) (T := TX5) (nf := 33) rfl w_1093 w_1094 w_1095 w_49 w_1096 ⟨rfl, by decide, by decide, by decide +kernel⟩ (by decide) (by decide) dL_law_1532 rfl))) ?_
  refine lcons (lsnd_g (snd_g (ok_iload dL_law_1535 rfl))) ?_
  refine lcons (lsnd_g (snd_g (ok_icmp_eq dL_law_1537 rfl rfl))) ?_
  refine lcons (lsnd_g (snd_g (ok_iconst dL_law_1540 rfl rfl))) ?_
  refine lcons (ok_lret dL_law_1541) ?_
  refine lcons (lsnd_g (snd_g (ok_iload dL_law_1542 rfl))) ?_
  refine lcons (lsnd_g (snd_g (ok_if_ne dL_law_1544 rfl rfl))) ?_
  refine lcons (lsnd_g (snd_g (ok_aload_n dL_law_1547 rfl rfl))) ?_
  refine lcons (lsnd_g (snd_g (ok_iconst dL_law_1548 rfl rfl))) ?_
  refine lcons (lsnd_g (snd_g (ok_laload dL_law_1549 rfl))) ?_
  refine lcons (lsnd_g (snd_g (ok_iload dL_law_1550 rfl))) ?_
  refine lcons (lsnd_g (snd_g (ok_i2l dL_law_1552 rfl))) ?_
  refine lcons (lsnd_g (snd_g (ok_lcmp dL_law_1553 rfl))) ?_
  refine lcons (lsnd_g (snd_g (ok_if_eq dL_law_1554 rfl rfl))) ?_
  refine lcons (lsnd_g (snd_g (ok_iconst dL_law_1557 rfl rfl))) ?_
  refine lcons (ok_lret dL_law_1558) ?_
  refine lcons (lsnd_g (snd_g (ok_goto dL_law_1559 rfl))) ?_
  exact fun _ h => nomatch h

