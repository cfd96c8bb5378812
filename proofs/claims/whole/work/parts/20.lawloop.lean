def f_L_law_298 (L : Nat) (xs : Nat → Int32) (K23 : St → St → (Nat → Int64) → Int32 → Option Int32) (S : St) (T : St) (o : Nat → Int64) (x4 : Int32) (s0 : Int64) (s1 : Int64) : Option Int32 := (if (lg_cmp s0 s1) = 0 then (bnd (x4 + 4) fun y2 => (K23 S T o y2)) else none)
def f_L_law_264 (L : Nat) (xs : Nat → Int32) (K23 : St → St → (Nat → Int64) → Int32 → Option Int32) (S : St) (T : St) (o : Nat → Int64) (x4 : Int32) (x5 : Int32) (s1 : Int32) (s2 : Int32) (s3 : Int32) : Option Int32 := ((f_X1_cover T s1 s2 s3).bind fun q1 => (bnd q1.1 fun y2 => (if (f_X1_thrown q1.2) = x5 then (if x5 = 0 then (if y2 = 0 then (f_L_law_298 L xs K23 S q1.2 o x4 (o (0 : Int32).toNatClampNeg) 0) else (f_L_law_298 L xs K23 S q1.2 o x4 (o (0 : Int32).toNatClampNeg) 1)) else (bnd (x4 + 4) fun y5 => (K23 S q1.2 o y5))) else none)))
def f_L_law_231 (L : Nat) (xs : Nat → Int32) (K23 : St → St → (Nat → Int64) → Int32 → Option Int32) (S : St) (T : St) (o : Nat → Int64) (x4 : Int32) (s1 : Int32) (s2 : Int32) (s3 : Int32) : Option Int32 := ((f_L_cover S o s1 s2 s3).bind fun q1 => (bnd q1.1 fun y2 => ((rdA L xs (x4 + 1)).bind fun v3 => ((rdA L xs (x4 + 2)).bind fun v4 => ((rdA L xs (x4 + 3)).bind fun v5 => (if v5 = 0 then (f_L_law_264 L xs K23 q1.2.1 T q1.2.2 x4 y2 v3 v4 0) else (f_L_law_264 L xs K23 q1.2.1 T q1.2.2 x4 y2 v3 v4 1)))))))
def f_L_law_997 (L : Nat) (xs : Nat → Int32) (K23 : St → St → (Nat → Int64) → Int32 → Option Int32) (S : St) (T : St) (o : Nat → Int64) (x4 : Int32) (s0 : Int64) (s1 : Int64) : Option Int32 := (if (lg_cmp s0 s1) = 0 then (bnd (x4 + 4) fun y2 => (K23 S T o y2)) else none)
def f_L_law_1060 (L : Nat) (xs : Nat → Int32) (K23 : St → St → (Nat → Int64) → Int32 → Option Int32) (S : St) (T : St) (o : Nat → Int64) (x4 : Int32) (s0 : Int64) (s1 : Int64) : Option Int32 := (if (lg_cmp s0 s1) = 0 then (bnd (x4 + 4) fun y2 => (K23 S T o y2)) else none)
def f_L_law_1173 (L : Nat) (xs : Nat → Int32) (K23 : St → St → (Nat → Int64) → Int32 → Option Int32) (S : St) (T : St) (o : Nat → Int64) (x4 : Int32) (x5 : Int32) (s1 : Int32) (s2 : Int32) : Option Int32 := ((f_X1_leastSet T s1 s2).bind fun q1 => (bnd q1.1 fun y2 => (if (f_X1_thrown q1.2) = x5 then (if x5 = 0 then (if (lg_cmp (o (0 : Int32).toNatClampNeg) (y2.toInt64)) = 0 then (bnd (x4 + 4) fun y7 => (K23 S q1.2 o y7)) else none) else (bnd (x4 + 4) fun y5 => (K23 S q1.2 o y5))) else none)))
def f_L_law_1146 (L : Nat) (xs : Nat → Int32) (K23 : St → St → (Nat → Int64) → Int32 → Option Int32) (S : St) (T : St) (o : Nat → Int64) (x4 : Int32) (s1 : Int32) (s2 : Int32) : Option Int32 := ((f_L_leastSet S o s1 s2).bind fun q1 => (bnd q1.1 fun y2 => ((rdA L xs (x4 + 1)).bind fun v3 => ((rdA L xs (x4 + 2)).bind fun v4 => (if v4 = 0 then (f_L_law_1173 L xs K23 q1.2.1 T q1.2.2 x4 y2 v3 0) else (f_L_law_1173 L xs K23 q1.2.1 T q1.2.2 x4 y2 v3 1))))))
def f_L_law_1257 (L : Nat) (xs : Nat → Int32) (K23 : St → St → (Nat → Int64) → Int32 → Option Int32) (S : St) (T : St) (o : Nat → Int64) (x4 : Int32) (x5 : Int32) (s1 : Int32) (s2 : Int32) : Option Int32 := ((f_X1_leastSetAnew T s1 s2).bind fun q1 => (bnd q1.1 fun y2 => (if (f_X1_thrown q1.2) = x5 then (if x5 = 0 then (if (lg_cmp (o (0 : Int32).toNatClampNeg) (y2.toInt64)) = 0 then (bnd (x4 + 4) fun y7 => (K23 S q1.2 o y7)) else none) else (bnd (x4 + 4) fun y5 => (K23 S q1.2 o y5))) else none)))
def f_L_law_1230 (L : Nat) (xs : Nat → Int32) (K23 : St → St → (Nat → Int64) → Int32 → Option Int32) (S : St) (T : St) (o : Nat → Int64) (x4 : Int32) (s1 : Int32) (s2 : Int32) : Option Int32 := ((f_L_leastSetAnew S o s1 s2).bind fun q1 => (bnd q1.1 fun y2 => ((rdA L xs (x4 + 1)).bind fun v3 => ((rdA L xs (x4 + 2)).bind fun v4 => (if v4 = 0 then (f_L_law_1257 L xs K23 q1.2.1 T q1.2.2 x4 y2 v3 0) else (f_L_law_1257 L xs K23 q1.2.1 T q1.2.2 x4 y2 v3 1))))))
def f_L_body (L : Nat) (xs : Nat → Int32) (K23 : St → St → (Nat → Int64) → Int32 → Option Int32) (S : St) (T : St) (o : Nat → Int64) (x4 : Int32) : Option Int32 := (if ((Int32.ofNat L) - 4) < x4 then some 1 else ((rdA L xs x4).bind fun v2 => (bnd (v2 &&& 31) fun y3 => (if y3 = 0 then ((rdA L xs (x4 + 1)).bind fun v5 => ((f_L_elements S o v5).bind fun q6 => (bnd q6.1 fun y7 => ((rdA L xs (x4 + 1)).bind fun v8 => ((f_X1_elements T v8).bind fun q9 => (bnd q9.1 fun y10 => (if (f_X1_thrown q9.2) = y7 then (if y7 = 0 then (if (lg_cmp (q6.2.2 (0 : Int32).toNatClampNeg) (y10.toInt64)) = 0 then (bnd (x4 + 4) fun y15 => (K23 q6.2.1 q9.2 q6.2.2 y15)) else none) else (bnd (x4 + 4) fun y13 => (K23 q6.2.1 q9.2 q6.2.2 y13))) else none))))))) else (if y3 = 1 then ((rdA L xs (x4 + 1)).bind fun v17 => ((rdA L xs (x4 + 2)).bind fun v18 => ((rdA L xs (x4 + 3)).bind fun v19 => (if v19 = 0 then (f_L_law_231 L xs K23 S T o x4 v17 v18 0) else (f_L_law_231 L xs K23 S T o x4 v17 v18 1))))) else (if y3 = 2 then ((rdA L xs (x4 + 1)).bind fun v22 => ((rdA L xs (x4 + 2)).bind fun v23 => ((rdA L xs (x4 + 3)).bind fun v24 => ((f_L_edge S o v22 v23 v24).bind fun q25 => (bnd q25.1 fun y26 => ((rdA L xs (x4 + 1)).bind fun v27 => ((rdA L xs (x4 + 2)).bind fun v28 => ((rdA L xs (x4 + 3)).bind fun v29 => ((f_X1_edge T v27 v28 v29).bind fun q30 => (bnd q30.1 fun y31 => (if (f_X1_thrown q30.2) = y26 then (if y26 = 0 then (if (lg_cmp (q25.2.2 (0 : Int32).toNatClampNeg) (y31.toInt64)) = 0 then (bnd (x4 + 4) fun y36 => (K23 q25.2.1 q30.2 q25.2.2 y36)) else none) else (bnd (x4 + 4) fun y34 => (K23 q25.2.1 q30.2 q25.2.2 y34))) else none))))))))))) else (if y3 = 3 then ((rdA L xs (x4 + 1)).bind fun v38 => ((rdA L xs (x4 + 2)).bind fun v39 => ((rdA L xs (x4 + 3)).bind fun v40 => ((f_L_colour S o v38 v39 v40).bind fun q41 => (bnd q41.1 fun y42 => ((rdA L xs (x4 + 1)).bind fun v43 => ((rdA L xs (x4 + 2)).bind fun v44 => ((rdA L xs (x4 + 3)).bind fun v45 => ((f_X1_colour T v43 v44 v45).bind fun q46 => (bnd q46.1 fun y47 => (if (f_X1_thrown q46.2) = y42 then (if y42 = 0 then (if (lg_cmp (q41.2.2 (0 : Int32).toNatClampNeg) (y47.toInt64)) = 0 then (bnd (x4 + 4) fun y52 => (K23 q41.2.1 q46.2 q41.2.2 y52)) else none) else (bnd (x4 + 4) fun y50 => (K23 q41.2.1 q46.2 q41.2.2 y50))) else none))))))))))) else (if y3 = 4 then ((rdA L xs (x4 + 1)).bind fun v54 => ((rdA L xs (x4 + 2)).bind fun v55 => ((rdA L xs (x4 + 3)).bind fun v56 => ((f_L_room S o v54 v55 v56).bind fun q57 => (bnd q57.1 fun y58 => ((rdA L xs (x4 + 1)).bind fun v59 => ((rdA L xs (x4 + 2)).bind fun v60 => ((rdA L xs (x4 + 3)).bind fun v61 => ((f_X1_room T v59 v60 v61).bind fun q62 => (bnd q62.1 fun y63 => (if (f_X1_thrown q62.2) = y58 then (if y58 = 0 then (if (lg_cmp (q57.2.2 (0 : Int32).toNatClampNeg) (y63.toInt64)) = 0 then (bnd (x4 + 4) fun y68 => (K23 q57.2.1 q62.2 q57.2.2 y68)) else none) else (bnd (x4 + 4) fun y66 => (K23 q57.2.1 q62.2 q57.2.2 y66))) else none))))))))))) else (if y3 = 5 then ((rdA L xs (x4 + 1)).bind fun v70 => ((rdA L xs (x4 + 2)).bind fun v71 => ((f_L_weigh S o v70 v71).bind fun q72 => (bnd q72.1 fun y73 => ((rdA L xs (x4 + 1)).bind fun v74 => ((rdA L xs (x4 + 2)).bind fun v75 => ((f_X1_weigh T v74 v75).bind fun q76 => (bnd q76.1 fun y77 => (if (f_X1_thrown q76.2) = y73 then (if y73 = 0 then (if (lg_cmp (q72.2.2 (0 : Int32).toNatClampNeg) (y77.toInt64)) = 0 then (bnd (x4 + 4) fun y82 => (K23 q72.2.1 q76.2 q72.2.2 y82)) else none) else (bnd (x4 + 4) fun y80 => (K23 q72.2.1 q76.2 q72.2.2 y80))) else none))))))))) else (if y3 = 6 then ((rdA L xs (x4 + 1)).bind fun v84 => ((f_L_make S o v84).bind fun q85 => (bnd q85.1 fun y86 => ((rdA L xs (x4 + 1)).bind fun v87 => ((f_X1_make T v87).bind fun q88 => (bnd q88.1 fun y89 => (if (f_X1_thrown q88.2) = y86 then (if y86 = 0 then (if (lg_cmp (q85.2.2 (0 : Int32).toNatClampNeg) (y89.toInt64)) = 0 then (bnd (x4 + 4) fun y94 => (K23 q85.2.1 q88.2 q85.2.2 y94)) else none) else (bnd (x4 + 4) fun y92 => (K23 q85.2.1 q88.2 q85.2.2 y92))) else none))))))) else (if y3 = 7 then ((rdA L xs (x4 + 1)).bind fun v96 => ((rdA L xs (x4 + 2)).bind fun v97 => ((f_L_sum S o v96 v97).bind fun q98 => (bnd q98.1 fun y99 => ((rdA L xs (x4 + 1)).bind fun v100 => ((rdA L xs (x4 + 2)).bind fun v101 => ((f_X1_sum T v100 v101).bind fun q102 => (bnd q102.1 fun y103 => (if (f_X1_thrown q102.2) = y99 then (if y99 = 0 then (if (lg_cmp (q98.2.2 (0 : Int32).toNatClampNeg) (y103.toInt64)) = 0 then (bnd (x4 + 4) fun y108 => (K23 q98.2.1 q102.2 q98.2.2 y108)) else none) else (bnd (x4 + 4) fun y106 => (K23 q98.2.1 q102.2 q98.2.2 y106))) else none))))))))) else (if y3 = 8 then ((rdA L xs (x4 + 1)).bind fun v110 => ((rdA L xs (x4 + 2)).bind fun v111 => ((f_L_contract S o v110 v111).bind fun q112 => (bnd q112.1 fun y113 => ((rdA L xs (x4 + 1)).bind fun v114 => ((rdA L xs (x4 + 2)).bind fun v115 => ((f_X1_contract T v114 v115).bind fun q116 => (bnd q116.1 fun y117 => (if (f_X1_thrown q116.2) = y113 then (if y113 = 0 then (if (lg_cmp (q112.2.2 (0 : Int32).toNatClampNeg) (y117.toInt64)) = 0 then (bnd (x4 + 4) fun y122 => (K23 q112.2.1 q116.2 q112.2.2 y122)) else none) else (bnd (x4 + 4) fun y120 => (K23 q112.2.1 q116.2 q112.2.2 y120))) else none))))))))) else (if y3 = 9 then ((rdA L xs (x4 + 1)).bind fun v124 => ((rdA L xs (x4 + 2)).bind fun v125 => ((f_L_cap S o v124 v125).bind fun q126 => (bnd q126.1 fun y127 => ((rdA L xs (x4 + 1)).bind fun v128 => ((rdA L xs (x4 + 2)).bind fun v129 => ((f_X1_cap T v128 v129).bind fun q130 => (bnd q130.1 fun y131 => (if (f_X1_thrown q130.2) = y127 then (if y127 = 0 then (if (lg_cmp (q126.2.2 (0 : Int32).toNatClampNeg) (y131.toInt64)) = 0 then (bnd (x4 + 4) fun y136 => (K23 q126.2.1 q130.2 q126.2.2 y136)) else none) else (bnd (x4 + 4) fun y134 => (K23 q126.2.1 q130.2 q126.2.2 y134))) else none))))))))) else (if y3 = 10 then ((rdA L xs (x4 + 1)).bind fun v138 => ((rdA L xs (x4 + 2)).bind fun v139 => ((f_L_value S o v138 v139).bind fun q140 => (bnd q140.1 fun y141 => ((rdA L xs (x4 + 1)).bind fun v142 => ((rdA L xs (x4 + 2)).bind fun v143 => ((f_X1_value T v142 v143).bind fun q144 => (bnd q144.1 fun y145 => (if (f_X1_thrown q144.2) = y141 then (if y141 = 0 then (if (lg_cmp (q140.2.2 (0 : Int32).toNatClampNeg) (y145.toInt64)) = 0 then (bnd (x4 + 4) fun y150 => (K23 q140.2.1 q144.2 q140.2.2 y150)) else none) else (bnd (x4 + 4) fun y148 => (K23 q140.2.1 q144.2 q140.2.2 y148))) else none))))))))) else (if y3 = 11 then ((rdA L xs (x4 + 1)).bind fun v152 => ((f_L_isLawful S o v152).bind fun q153 => (bnd q153.1 fun y154 => ((rdA L xs (x4 + 1)).bind fun v155 => ((f_X1_isLawful T v155).bind fun q156 => (bnd q156.1 fun y157 => (if (f_X1_thrown q156.2) = y154 then (if y154 = 0 then (if y157 = 0 then (f_L_law_997 L xs K23 q153.2.1 q156.2 q153.2.2 x4 (q153.2.2 (0 : Int32).toNatClampNeg) 0) else (f_L_law_997 L xs K23 q153.2.1 q156.2 q153.2.2 x4 (q153.2.2 (0 : Int32).toNatClampNeg) 1)) else (bnd (x4 + 4) fun y160 => (K23 q153.2.1 q156.2 q153.2.2 y160))) else none))))))) else (if y3 = 12 then ((rdA L xs (x4 + 1)).bind fun v163 => ((f_L_rises S o v163).bind fun q164 => (bnd q164.1 fun y165 => ((rdA L xs (x4 + 1)).bind fun v166 => ((f_X1_rises T v166).bind fun q167 => (bnd q167.1 fun y168 => (if (f_X1_thrown q167.2) = y165 then (if y165 = 0 then (if y168 = 0 then (f_L_law_1060 L xs K23 q164.2.1 q167.2 q164.2.2 x4 (q164.2.2 (0 : Int32).toNatClampNeg) 0) else (f_L_law_1060 L xs K23 q164.2.1 q167.2 q164.2.2 x4 (q164.2.2 (0 : Int32).toNatClampNeg) 1)) else (bnd (x4 + 4) fun y171 => (K23 q164.2.1 q167.2 q164.2.2 y171))) else none))))))) else (if y3 = 13 then ((rdA L xs (x4 + 1)).bind fun v174 => ((f_L_least S o v174).bind fun q175 => (bnd q175.1 fun y176 => ((rdA L xs (x4 + 1)).bind fun v177 => ((f_X1_least T v177).bind fun q178 => (bnd q178.1 fun y179 => (if (f_X1_thrown q178.2) = y176 then (if y176 = 0 then (if (lg_cmp (q175.2.2 (0 : Int32).toNatClampNeg) (y179.toInt64)) = 0 then (bnd (x4 + 4) fun y184 => (K23 q175.2.1 q178.2 q175.2.2 y184)) else none) else (bnd (x4 + 4) fun y182 => (K23 q175.2.1 q178.2 q175.2.2 y182))) else none))))))) else (if y3 = 14 then ((rdA L xs (x4 + 1)).bind fun v186 => ((rdA L xs (x4 + 2)).bind fun v187 => (if v187 = 0 then (f_L_law_1146 L xs K23 S T o x4 v186 0) else (f_L_law_1146 L xs K23 S T o x4 v186 1)))) else (if y3 = 15 then ((rdA L xs (x4 + 1)).bind fun v190 => ((rdA L xs (x4 + 2)).bind fun v191 => (if v191 = 0 then (f_L_law_1230 L xs K23 S T o x4 v190 0) else (f_L_law_1230 L xs K23 S T o x4 v190 1)))) else (if y3 = 16 then ((rdA L xs (x4 + 1)).bind fun v194 => ((f_L_order S o v194).bind fun q195 => (bnd q195.1 fun y196 => ((rdA L xs (x4 + 1)).bind fun v197 => ((f_X1_order T v197).bind fun q198 => (bnd q198.1 fun y199 => (if (f_X1_thrown q198.2) = y196 then (if y196 = 0 then (if (lg_cmp (q195.2.2 (0 : Int32).toNatClampNeg) (y199.toInt64)) = 0 then (bnd (x4 + 4) fun y204 => (K23 q195.2.1 q198.2 q195.2.2 y204)) else none) else (bnd (x4 + 4) fun y202 => (K23 q195.2.1 q198.2 q195.2.2 y202))) else none))))))) else (if y3 = 17 then ((rdA L xs (x4 + 1)).bind fun v206 => ((rdA L xs (x4 + 2)).bind fun v207 => ((f_L_corner S o v206 v207).bind fun q208 => (bnd q208.1 fun y209 => ((rdA L xs (x4 + 1)).bind fun v210 => ((rdA L xs (x4 + 2)).bind fun v211 => ((f_X1_corner T v210 v211).bind fun q212 => (bnd q212.1 fun y213 => (if (f_X1_thrown q212.2) = y209 then (if y209 = 0 then (if (lg_cmp (q208.2.2 (0 : Int32).toNatClampNeg) (y213.toInt64)) = 0 then (bnd (x4 + 4) fun y218 => (K23 q208.2.1 q212.2 q208.2.2 y218)) else none) else (bnd (x4 + 4) fun y216 => (K23 q208.2.1 q212.2 q208.2.2 y216))) else none))))))))) else (if y3 = 18 then ((rdA L xs (x4 + 1)).bind fun v220 => ((rdA L xs (x4 + 2)).bind fun v221 => ((f_L_greedy S o v220 v221).bind fun q222 => (bnd q222.1 fun y223 => ((rdA L xs (x4 + 1)).bind fun v224 => ((rdA L xs (x4 + 2)).bind fun v225 => ((f_X1_greedy T v224 v225).bind fun q226 => (bnd q226.1 fun y227 => (if (f_X1_thrown q226.2) = y223 then (if y223 = 0 then (if (lg_cmp (q222.2.2 (0 : Int32).toNatClampNeg) (y227.toInt64)) = 0 then (bnd (x4 + 4) fun y232 => (K23 q222.2.1 q226.2 q222.2.2 y232)) else none) else (bnd (x4 + 4) fun y230 => (K23 q222.2.1 q226.2 q222.2.2 y230))) else none))))))))) else (if y3 = 19 then ((rdA L xs (x4 + 1)).bind fun v234 => ((rdA L xs (x4 + 2)).bind fun v235 => ((f_L_best S o v234 v235).bind fun q236 => (bnd q236.1 fun y237 => ((rdA L xs (x4 + 1)).bind fun v238 => ((rdA L xs (x4 + 2)).bind fun v239 => ((f_X1_best T v238 v239).bind fun q240 => (bnd q240.1 fun y241 => (if (f_X1_thrown q240.2) = y237 then (if y237 = 0 then (if (lg_cmp (q236.2.2 (0 : Int32).toNatClampNeg) (y241.toInt64)) = 0 then (bnd (x4 + 4) fun y246 => (K23 q236.2.1 q240.2 q236.2.2 y246)) else none) else (bnd (x4 + 4) fun y244 => (K23 q236.2.1 q240.2 q236.2.2 y244))) else none))))))))) else (if y3 = 20 then ((f_X0_common S).bind fun q248 => ((f_X1_common T).bind fun q249 => (if q248.1 = q249.1 then (bnd (x4 + 4) fun y251 => (K23 q248.2 q249.2 o y251)) else none))) else (if y3 = 21 then ((f_X0_commonAnew S).bind fun v253 => ((f_X1_commonAnew T).bind fun q254 => (if v253 = q254.1 then (bnd (x4 + 4) fun y256 => (K23 S q254.2 o y256)) else none))) else (if y3 = 22 then ((rdA L xs (x4 + 1)).bind fun v258 => ((rdA L xs (x4 + 2)).bind fun v259 => ((f_L_share S o v258 v259).bind fun q260 => (bnd q260.1 fun y261 => ((rdA L xs (x4 + 1)).bind fun v262 => ((rdA L xs (x4 + 2)).bind fun v263 => ((f_X1_share T v262 v263).bind fun q264 => (bnd q264.1 fun y265 => (if (f_X1_thrown q264.2) = y261 then (if y261 = 0 then (if (lg_cmp (q260.2.2 (0 : Int32).toNatClampNeg) (y265.toInt64)) = 0 then (bnd (x4 + 4) fun y270 => (K23 q260.2.1 q264.2 q260.2.2 y270)) else none) else (bnd (x4 + 4) fun y268 => (K23 q260.2.1 q264.2 q260.2.2 y268))) else none))))))))) else (if y3 = 23 then ((rdA L xs (x4 + 1)).bind fun v272 => ((rdA L xs (x4 + 2)).bind fun v273 => ((f_L_shareAnew S o v272 v273).bind fun q274 => (bnd q274.1 fun y275 => ((rdA L xs (x4 + 1)).bind fun v276 => ((rdA L xs (x4 + 2)).bind fun v277 => ((f_X1_shareAnew T v276 v277).bind fun q278 => (bnd q278.1 fun y279 => (if (f_X1_thrown q278.2) = y275 then (if y275 = 0 then (if (lg_cmp (q274.2.2 (0 : Int32).toNatClampNeg) (y279.toInt64)) = 0 then (bnd (x4 + 4) fun y284 => (K23 q274.2.1 q278.2 q274.2.2 y284)) else none) else (bnd (x4 + 4) fun y282 => (K23 q274.2.1 q278.2 q274.2.2 y282))) else none))))))))) else (bnd (x4 + 4) fun y285 => (K23 S T o y285)))))))))))))))))))))))))))))
def f_L_law_23 (L : Nat) (xs : Nat → Int32) : Nat → St → St → (Nat → Int64) → Int32 → Option Int32
  | 0, _, _, _, _ => none
  | k + 1, S, T, o, x4 => f_L_body L xs (f_L_law_23 L xs k) S T o x4
set_option maxHeartbeats 16000000 in
set_option maxRecDepth 100000 in
theorem law_loop {p : Program} {l : Launch} {e : Env} {s : State} {m : MethodId} {below : List Frame} {meth : Method} {c : Code} (hfl : l.stackTraces = false) {dC : Nat → ClassId} {dI : Nat → Nat → Nat} {cA cL : ClassId} {a b : Nat → Nat} {oa sb L : Nat} {xs : Nat → Int32} (C0 : lw_At p s m meth c sb L xs) (hK : va_K (dC, dI) vwCl [(cA, .int), (cL, .long)] s) (hF : LF s a b oa) (hE : TXo (fun q => s.heap.size ≤ q) s) (hN : NCs s) (r : Int32) :
    ∀ (k C Z : Nat) (S T : St) (o : Nat → Int64) (x4 : Int32) (H : Heap) (locs : List Loc), C + 3 * k ≤ 600000 → Z + 18 * k ≤ 7200000 → ∀ (ls : Array Slot), f_L_law_23 L xs k S T o x4 = some r → LW (dC, dI) cA cL a b oa S T o H → va_S (fun q => s.heap.size ≤ q) s.heap H locs → lv_has ls 7 [(0, .ref sb), (1, .ref (a 0)), (2, .ref (b 0)), (3, .ref oa), (4, .int x4)] → W p l e room_1 s m #[Value.ref sb] below meth c H locs C Z (lw_Z below #[Value.ref sb] s) (F0 m 23 ls []) := by
  obtain ⟨hx, hb, hr, hml, hown, hts, hX, hbl, hlocks, hgv⟩ := C0
  have hown : s.vm.findClass RL = some m.cls := hown
  have hts := fun w h => hts w (wsL_law_in w h)
  have hbA : ¬ (fun q : Nat => s.heap.size ≤ q) sb := Nat.not_le.mpr hbl
  have hK1 : va_K (dC, dI) vwCl [(cA, .int)] s := hK.sub [0] rfl
  intro k
  induction k with
  | zero =>
    intro C Z S T o x4 H locs hC hZ ls hf
    rw [f_L_law_23] at hf
    cases hf
  | succ k ih23 =>
    intro C Z
    suffices hgo : C + 3 * (k + 1) ≤ 600000 → Z + 18 * (k + 1) ≤ 7200000 → ∀ (S T : St) (o : Nat → Int64) (x4 : Int32) (H : Heap) (locs : List Loc) (ls : Array Slot), f_L_law_23 L xs (k + 1) S T o x4 = some r → LW (dC, dI) cA cL a b oa S T o H → va_S (fun q => s.heap.size ≤ q) s.heap H locs → lv_has ls 7 [(0, .ref sb), (1, .ref (a 0)), (2, .ref (b 0)), (3, .ref oa), (4, .int x4)] → W p l e room_1 s m #[Value.ref sb] below meth c H locs C Z (lw_Z below #[Value.ref sb] s) (F0 m 23 ls []) from fun S T o x4 H locs hC hZ ls hf => hgo hC hZ S T o x4 H locs ls hf
    intro hC hZ
    have hW298 : ∀ (S : St) (T : St) (o : Nat → Int64) (x4 : Int32) (s0 : Int64) (s1 : Int64) (H : Heap) (locs : List Loc) (ls : Array Slot), f_L_law_298 L xs (f_L_law_23 L xs k) S T o x4 s0 s1 = some r → LW (dC, dI) cA cL a b oa S T o H → va_S (fun q => s.heap.size ≤ q) s.heap H locs → lv_has ls 7 [(0, .ref sb), (1, .ref (a 0)), (2, .ref (b 0)), (3, .ref oa), (4, .int x4)] → W p l e room_1 s m #[Value.ref sb] below meth c H locs (C + 1) (Z + 6) (lw_Z below #[Value.ref sb] s) (F0 m 298 ls [.long s1, .long s0]) := by
      intro S T o x4 s0 s1 H locs ls hf hL hS hl
      unfold f_L_law_298 at hf
      refine W.lcmp hx hb dL_law_298 ?_
      refine lv_if_eq (tgt := 304) hx hb dL_law_299 (by decide) (fun c1 => ?_) (fun c1 => ?_)
      · rw [if_pos c1] at hf
        refine lv_goto (tgt := 1715) hx hb dL_law_304 (by decide) ?_
        obtain ⟨y2, ey2⟩ : ∃ y : Int32, y = (x4 + 4) := ⟨_, rfl⟩
        have hf := bnd_at hf ey2
        refine lv_iinc (v := y2) (lv' := [(4, .int y2), (0, .ref sb), (1, .ref (a 0)), (2, .ref (b 0)), (3, .ref oa)]) hx hb dL_law_1715 hl (k := 4) rfl (by rw [ey2]; rfl) (by decide) rfl (fun ls hl => ?_)
        refine lv_goto (tgt := 23) hx hb dL_law_1718 (by decide) ?_
        exact ih23 (C + 1) (Z + 6) S T o y2 _ _ (by omega) (by omega) ls hf hL hS (lv_sub hl [1, 2, 3, 4, 0] rfl)
      · rw [if_neg c1] at hf
        refine lv_iconst (v := 0) hx hb dL_law_302 (by decide) ?_
        cases hf
    have hW264 : ∀ (S : St) (T : St) (o : Nat → Int64) (x4 : Int32) (x5 : Int32) (s1 : Int32) (s2 : Int32) (s3 : Int32) (H : Heap) (locs : List Loc) (ls : Array Slot), f_L_law_264 L xs (f_L_law_23 L xs k) S T o x4 x5 s1 s2 s3 = some r → LW (dC, dI) cA cL a b oa S T o H → va_S (fun q => s.heap.size ≤ q) s.heap H locs → lv_has ls 7 [(0, .ref sb), (1, .ref (a 0)), (2, .ref (b 0)), (3, .ref oa), (4, .int x4), (5, .int x5)] → W p l e room_1 s m #[Value.ref sb] below meth c H locs (C + 1) (Z + 6) (lw_Z below #[Value.ref sb] s) (F0 m 264 ls [.int s3, .int s2, .int s1, .ref (b 0)]) := by
      intro S T o x4 x5 s1 s2 s3 H locs ls hf hL hS hl
      unfold f_L_law_264 at hf
      obtain ⟨q1, hq1, hf⟩ := ob_some hf
      refine lw_mo (As := [.int s1, .int s2, .int s3]) (rest := []) ⟨hx, hb, hml, hown, hts⟩ (k_X1_cover l dC dI cA b T s1 s2 s3 _ hq1 hF.2.1) gL_law_X1_cover rfl rfl rfl cd_X1_cover (Nat.le_of_ble_eq_true rfl) (Nat.le_of_ble_eq_true rfl) (preM hK1 hL.2.1) rfl hl.1 rfl (Nat.le_of_ble_eq_true rfl) (by show (C + 1) ≤ 601024; omega) (by show (Z + 6) ≤ 7293033; omega) dL_law_264 hL hF hS (fun H locs hL hS => ?_)
      refine lv_topi (fun y2 ey2 => ?_)
      have hf := bnd_at hf ey2
      refine lv_istore (lv' := [(6, .int y2), (0, .ref sb), (1, .ref (a 0)), (2, .ref (b 0)), (3, .ref oa), (4, .int x4), (5, .int x5)]) hx hb dL_law_267 hl (by decide) rfl (fun ls hl => ?_)
      refine lv_aload_n hx hb dL_law_269 rfl (lv_at hl 3 rfl) ?_
      refine pu_V (As := []) (rest := []) ⟨hx, hb, hml, hown, hts⟩ (k_X1_thrown l dC dI cA b q1.2 _ rfl) gL_law_X1_thrown rfl rfl rfl cd_X1_thrown (Nat.le_of_ble_eq_true rfl) (Nat.le_of_ble_eq_true rfl) (preM hK1 hL.2.1) rfl hl.1 rfl (Nat.le_of_ble_eq_true rfl) (by show (C + 1) ≤ 601024; omega) (by show (Z + 6) ≤ 7293033; omega) dL_law_270 ?_
      refine lv_iload hx hb dL_law_273 (lv_at hl 6 rfl) ?_
      refine lv_icmp_eq (tgt := 280) hx hb dL_law_275 (by decide) (fun c3 => ?_) (fun c3 => ?_)
      · rw [if_pos c3] at hf
        refine lv_iload hx hb dL_law_280 (lv_at hl 6 rfl) ?_
        refine lv_if_ne (tgt := 304) hx hb dL_law_282 (by decide) (fun c4 => ?_) (fun c4 => ?_)
        · rw [if_neg c4] at hf
          refine lv_goto (tgt := 1715) hx hb dL_law_304 (by decide) ?_
          obtain ⟨y5, ey5⟩ : ∃ y : Int32, y = (x4 + 4) := ⟨_, rfl⟩
          have hf := bnd_at hf ey5
          refine lv_iinc (v := y5) (lv' := [(4, .int y5), (6, .int y2), (0, .ref sb), (1, .ref (a 0)), (2, .ref (b 0)), (3, .ref oa), (5, .int x5)]) hx hb dL_law_1715 hl (k := 5) rfl (by rw [ey5]; rfl) (by decide) rfl (fun ls hl => ?_)
          refine lv_goto (tgt := 23) hx hb dL_law_1718 (by decide) ?_
          exact ih23 (C + 1) (Z + 6) S q1.2 o y5 _ _ (by omega) (by omega) ls hf hL hS (lv_sub hl [2, 3, 4, 5, 0] rfl)
        · rw [if_pos c4] at hf
          refine lv_aload_n hx hb dL_law_285 rfl (lv_at hl 4 rfl) ?_
          refine lv_iconst (v := 0) hx hb dL_law_286 (by decide) ?_
          refine va_lald hx hb hK hL.2.2 0 1 rfl rfl in01 dL_law_287 ?_
          refine lv_iload hx hb dL_law_288 (lv_at hl 0 rfl) ?_
          refine lv_if_eq (tgt := 297) hx hb dL_law_290 (by decide) (fun c6 => ?_) (fun c6 => ?_)
          · rw [if_pos c6] at hf
            refine lv_lconst (v := 0) hx hb dL_law_297 (by decide) ?_
            exact hW298 S q1.2 o x4 (o (0 : Int32).toNatClampNeg) 0 _ _ ls hf hL hS (lv_sub hl [1, 2, 3, 4, 5] rfl)
          · rw [if_neg c6] at hf
            refine lv_lconst (v := 1) hx hb dL_law_293 (by decide) ?_
            refine lv_goto (tgt := 298) hx hb dL_law_294 (by decide) ?_
            exact hW298 S q1.2 o x4 (o (0 : Int32).toNatClampNeg) 1 _ _ ls hf hL hS (lv_sub hl [1, 2, 3, 4, 5] rfl)
      · rw [if_neg c3] at hf
        refine lv_iconst (v := 0) hx hb dL_law_278 (by decide) ?_
        cases hf
    have hW231 : ∀ (S : St) (T : St) (o : Nat → Int64) (x4 : Int32) (s1 : Int32) (s2 : Int32) (s3 : Int32) (H : Heap) (locs : List Loc) (ls : Array Slot), f_L_law_231 L xs (f_L_law_23 L xs k) S T o x4 s1 s2 s3 = some r → LW (dC, dI) cA cL a b oa S T o H → va_S (fun q => s.heap.size ≤ q) s.heap H locs → lv_has ls 7 [(0, .ref sb), (1, .ref (a 0)), (2, .ref (b 0)), (3, .ref oa), (4, .int x4)] → W p l e room_1 s m #[Value.ref sb] below meth c H locs C Z (lw_Z below #[Value.ref sb] s) (F0 m 231 ls [.int s3, .int s2, .int s1, .ref (a 0)]) := by
      intro S T o x4 s1 s2 s3 H locs ls hf hL hS hl
      unfold f_L_law_231 at hf
      refine lv_aload_n hx hb dL_law_231 rfl (lv_at hl 3 rfl) ?_
      obtain ⟨q1, hq1, hf⟩ := ob_some hf
      refine lw_wr (As := [.ref (a 0), .int s1, .int s2, .int s3, .ref oa]) (rest := []) ⟨hx, hb, hml, hown, hts⟩ (k_L_cover l hfl dC dI cA cL a oa S o s1 s2 s3 _ hq1 hF.1 hF.2.2.1) gL_law_L_cover rfl rfl rfl cd_L_cover (Nat.le_of_ble_eq_true rfl) (Nat.le_of_ble_eq_true rfl) (preL hK hL hF hE hN hS) rfl hl.1 rfl (Nat.le_of_ble_eq_true rfl) (by show C + 1 ≤ 601024; omega) (by show Z + 6 ≤ 7293033; omega) dL_law_232 hL hF hS (fun H locs hL hS => ?_)
      refine lv_topi (fun y2 ey2 => ?_)
      have hf := bnd_at hf ey2
      refine lv_istore (lv' := [(5, .int y2), (0, .ref sb), (1, .ref (a 0)), (2, .ref (b 0)), (3, .ref oa), (4, .int x4)]) hx hb dL_law_235 hl (by decide) rfl (fun ls hl => ?_)
      refine lv_aload_n hx hb dL_law_237 rfl (lv_at hl 3 rfl) ?_
      refine lv_aload_n hx hb dL_law_238 rfl (lv_at hl 1 rfl) ?_
      refine lv_iload hx hb dL_law_239 (lv_at hl 5 rfl) ?_
      refine lv_iconst (v := 1) hx hb dL_law_241 (by decide) ?_
      refine lv_iadd hx hb dL_law_242 ?_
      obtain ⟨v3, hv3, hf⟩ := ob_some hf
      refine rdSc hx hb hX hbl hbA hS hv3 dL_law_243 ?_
      refine lv_aload_n hx hb dL_law_244 rfl (lv_at hl 1 rfl) ?_
      refine lv_iload hx hb dL_law_245 (lv_at hl 5 rfl) ?_
      refine lv_iconst (v := 2) hx hb dL_law_247 (by decide) ?_
      refine lv_iadd hx hb dL_law_248 ?_
      obtain ⟨v4, hv4, hf⟩ := ob_some hf
      refine rdSc hx hb hX hbl hbA hS hv4 dL_law_249 ?_
      refine lv_aload_n hx hb dL_law_250 rfl (lv_at hl 1 rfl) ?_
      refine lv_iload hx hb dL_law_251 (lv_at hl 5 rfl) ?_
      refine lv_iconst (v := 3) hx hb dL_law_253 (by decide) ?_
      refine lv_iadd hx hb dL_law_254 ?_
      obtain ⟨v5, hv5, hf⟩ := ob_some hf
      refine rdSc hx hb hX hbl hbA hS hv5 dL_law_255 ?_
      refine lv_if_eq (tgt := 263) hx hb dL_law_256 (by decide) (fun c6 => ?_) (fun c6 => ?_)
      · rw [if_pos c6] at hf
        refine lv_iconst (v := 0) hx hb dL_law_263 (by decide) ?_
        exact hW264 q1.2.1 T q1.2.2 x4 y2 v3 v4 0 _ _ ls hf hL hS (lv_sub hl [1, 2, 3, 4, 5, 0] rfl)
      · rw [if_neg c6] at hf
        refine lv_iconst (v := 1) hx hb dL_law_259 (by decide) ?_
        refine lv_goto (tgt := 264) hx hb dL_law_260 (by decide) ?_
        exact hW264 q1.2.1 T q1.2.2 x4 y2 v3 v4 1 _ _ ls hf hL hS (lv_sub hl [1, 2, 3, 4, 5, 0] rfl)
    have hW997 : ∀ (S : St) (T : St) (o : Nat → Int64) (x4 : Int32) (s0 : Int64) (s1 : Int64) (H : Heap) (locs : List Loc) (ls : Array Slot), f_L_law_997 L xs (f_L_law_23 L xs k) S T o x4 s0 s1 = some r → LW (dC, dI) cA cL a b oa S T o H → va_S (fun q => s.heap.size ≤ q) s.heap H locs → lv_has ls 7 [(0, .ref sb), (1, .ref (a 0)), (2, .ref (b 0)), (3, .ref oa), (4, .int x4)] → W p l e room_1 s m #[Value.ref sb] below meth c H locs (C + 1) (Z + 6) (lw_Z below #[Value.ref sb] s) (F0 m 997 ls [.long s1, .long s0]) := by
      intro S T o x4 s0 s1 H locs ls hf hL hS hl
      unfold f_L_law_997 at hf
      refine W.lcmp hx hb dL_law_997 ?_
      refine lv_if_eq (tgt := 1003) hx hb dL_law_998 (by decide) (fun c1 => ?_) (fun c1 => ?_)
      · rw [if_pos c1] at hf
        refine lv_goto (tgt := 1715) hx hb dL_law_1003 (by decide) ?_
        obtain ⟨y2, ey2⟩ : ∃ y : Int32, y = (x4 + 4) := ⟨_, rfl⟩
        have hf := bnd_at hf ey2
        refine lv_iinc (v := y2) (lv' := [(4, .int y2), (0, .ref sb), (1, .ref (a 0)), (2, .ref (b 0)), (3, .ref oa)]) hx hb dL_law_1715 hl (k := 4) rfl (by rw [ey2]; rfl) (by decide) rfl (fun ls hl => ?_)
        refine lv_goto (tgt := 23) hx hb dL_law_1718 (by decide) ?_
        exact ih23 (C + 1) (Z + 6) S T o y2 _ _ (by omega) (by omega) ls hf hL hS (lv_sub hl [1, 2, 3, 4, 0] rfl)
      · rw [if_neg c1] at hf
        refine lv_iconst (v := 0) hx hb dL_law_1001 (by decide) ?_
        cases hf
    have hW1060 : ∀ (S : St) (T : St) (o : Nat → Int64) (x4 : Int32) (s0 : Int64) (s1 : Int64) (H : Heap) (locs : List Loc) (ls : Array Slot), f_L_law_1060 L xs (f_L_law_23 L xs k) S T o x4 s0 s1 = some r → LW (dC, dI) cA cL a b oa S T o H → va_S (fun q => s.heap.size ≤ q) s.heap H locs → lv_has ls 7 [(0, .ref sb), (1, .ref (a 0)), (2, .ref (b 0)), (3, .ref oa), (4, .int x4)] → W p l e room_1 s m #[Value.ref sb] below meth c H locs (C + 1) (Z + 6) (lw_Z below #[Value.ref sb] s) (F0 m 1060 ls [.long s1, .long s0]) := by
      intro S T o x4 s0 s1 H locs ls hf hL hS hl
      unfold f_L_law_1060 at hf
      refine W.lcmp hx hb dL_law_1060 ?_
      refine lv_if_eq (tgt := 1066) hx hb dL_law_1061 (by decide) (fun c1 => ?_) (fun c1 => ?_)
      · rw [if_pos c1] at hf
        refine lv_goto (tgt := 1715) hx hb dL_law_1066 (by decide) ?_
        obtain ⟨y2, ey2⟩ : ∃ y : Int32, y = (x4 + 4) := ⟨_, rfl⟩
        have hf := bnd_at hf ey2
        refine lv_iinc (v := y2) (lv' := [(4, .int y2), (0, .ref sb), (1, .ref (a 0)), (2, .ref (b 0)), (3, .ref oa)]) hx hb dL_law_1715 hl (k := 4) rfl (by rw [ey2]; rfl) (by decide) rfl (fun ls hl => ?_)
        refine lv_goto (tgt := 23) hx hb dL_law_1718 (by decide) ?_
        exact ih23 (C + 1) (Z + 6) S T o y2 _ _ (by omega) (by omega) ls hf hL hS (lv_sub hl [1, 2, 3, 4, 0] rfl)
      · rw [if_neg c1] at hf
        refine lv_iconst (v := 0) hx hb dL_law_1064 (by decide) ?_
        cases hf
    have hW1173 : ∀ (S : St) (T : St) (o : Nat → Int64) (x4 : Int32) (x5 : Int32) (s1 : Int32) (s2 : Int32) (H : Heap) (locs : List Loc) (ls : Array Slot), f_L_law_1173 L xs (f_L_law_23 L xs k) S T o x4 x5 s1 s2 = some r → LW (dC, dI) cA cL a b oa S T o H → va_S (fun q => s.heap.size ≤ q) s.heap H locs → lv_has ls 7 [(0, .ref sb), (1, .ref (a 0)), (2, .ref (b 0)), (3, .ref oa), (4, .int x4), (5, .int x5)] → W p l e room_1 s m #[Value.ref sb] below meth c H locs (C + 2) (Z + 12) (lw_Z below #[Value.ref sb] s) (F0 m 1173 ls [.int s2, .int s1, .ref (b 0)]) := by
      intro S T o x4 x5 s1 s2 H locs ls hf hL hS hl
      unfold f_L_law_1173 at hf
      obtain ⟨q1, hq1, hf⟩ := ob_some hf
      refine lw_mo (As := [.int s1, .int s2]) (rest := []) ⟨hx, hb, hml, hown, hts⟩ (k_X1_leastSet l dC dI cA b T s1 s2 _ hq1 hF.2.1) gL_law_X1_leastSet rfl rfl rfl cd_X1_leastSet (Nat.le_of_ble_eq_true rfl) (Nat.le_of_ble_eq_true rfl) (preM hK1 hL.2.1) rfl hl.1 rfl (Nat.le_of_ble_eq_true rfl) (by show (C + 2) ≤ 601024; omega) (by show (Z + 12) ≤ 7293033; omega) dL_law_1173 hL hF hS (fun H locs hL hS => ?_)
      refine lv_topi (fun y2 ey2 => ?_)
      have hf := bnd_at hf ey2
      refine lv_istore (lv' := [(6, .int y2), (0, .ref sb), (1, .ref (a 0)), (2, .ref (b 0)), (3, .ref oa), (4, .int x4), (5, .int x5)]) hx hb dL_law_1176 hl (by decide) rfl (fun ls hl => ?_)
      refine lv_aload_n hx hb dL_law_1178 rfl (lv_at hl 3 rfl) ?_
      refine pu_V (As := []) (rest := []) ⟨hx, hb, hml, hown, hts⟩ (k_X1_thrown l dC dI cA b q1.2 _ rfl) gL_law_X1_thrown rfl rfl rfl cd_X1_thrown (Nat.le_of_ble_eq_true rfl) (Nat.le_of_ble_eq_true rfl) (preM hK1 hL.2.1) rfl hl.1 rfl (Nat.le_of_ble_eq_true rfl) (by show (C + 2) ≤ 601024; omega) (by show (Z + 12) ≤ 7293033; omega) dL_law_1179 ?_
      refine lv_iload hx hb dL_law_1182 (lv_at hl 6 rfl) ?_
      refine lv_icmp_eq (tgt := 1189) hx hb dL_law_1184 (by decide) (fun c3 => ?_) (fun c3 => ?_)
      · rw [if_pos c3] at hf
        refine lv_iload hx hb dL_law_1189 (lv_at hl 6 rfl) ?_
        refine lv_if_ne (tgt := 1206) hx hb dL_law_1191 (by decide) (fun c4 => ?_) (fun c4 => ?_)
        · rw [if_neg c4] at hf
          refine lv_goto (tgt := 1715) hx hb dL_law_1206 (by decide) ?_
          obtain ⟨y5, ey5⟩ : ∃ y : Int32, y = (x4 + 4) := ⟨_, rfl⟩
          have hf := bnd_at hf ey5
          refine lv_iinc (v := y5) (lv' := [(4, .int y5), (6, .int y2), (0, .ref sb), (1, .ref (a 0)), (2, .ref (b 0)), (3, .ref oa), (5, .int x5)]) hx hb dL_law_1715 hl (k := 5) rfl (by rw [ey5]; rfl) (by decide) rfl (fun ls hl => ?_)
          refine lv_goto (tgt := 23) hx hb dL_law_1718 (by decide) ?_
          exact ih23 (C + 2) (Z + 12) S q1.2 o y5 _ _ (by omega) (by omega) ls hf hL hS (lv_sub hl [2, 3, 4, 5, 0] rfl)
        · rw [if_pos c4] at hf
          refine lv_aload_n hx hb dL_law_1194 rfl (lv_at hl 4 rfl) ?_
          refine lv_iconst (v := 0) hx hb dL_law_1195 (by decide) ?_
          refine va_lald hx hb hK hL.2.2 0 1 rfl rfl in01 dL_law_1196 ?_
          refine lv_iload hx hb dL_law_1197 (lv_at hl 0 rfl) ?_
          refine lv_i2l (v := (y2.toInt64)) hx hb dL_law_1199 rfl ?_
          refine W.lcmp hx hb dL_law_1200 ?_
          refine lv_if_eq (tgt := 1206) hx hb dL_law_1201 (by decide) (fun c6 => ?_) (fun c6 => ?_)
          · rw [if_pos c6] at hf
            refine lv_goto (tgt := 1715) hx hb dL_law_1206 (by decide) ?_
            obtain ⟨y7, ey7⟩ : ∃ y : Int32, y = (x4 + 4) := ⟨_, rfl⟩
            have hf := bnd_at hf ey7
            refine lv_iinc (v := y7) (lv' := [(4, .int y7), (6, .int y2), (0, .ref sb), (1, .ref (a 0)), (2, .ref (b 0)), (3, .ref oa), (5, .int x5)]) hx hb dL_law_1715 hl (k := 5) rfl (by rw [ey7]; rfl) (by decide) rfl (fun ls hl => ?_)
            refine lv_goto (tgt := 23) hx hb dL_law_1718 (by decide) ?_
            exact ih23 (C + 2) (Z + 12) S q1.2 o y7 _ _ (by omega) (by omega) ls hf hL hS (lv_sub hl [2, 3, 4, 5, 0] rfl)
          · rw [if_neg c6] at hf
            refine lv_iconst (v := 0) hx hb dL_law_1204 (by decide) ?_
            cases hf
      · rw [if_neg c3] at hf
        refine lv_iconst (v := 0) hx hb dL_law_1187 (by decide) ?_
        cases hf
    have hW1146 : ∀ (S : St) (T : St) (o : Nat → Int64) (x4 : Int32) (s1 : Int32) (s2 : Int32) (H : Heap) (locs : List Loc) (ls : Array Slot), f_L_law_1146 L xs (f_L_law_23 L xs k) S T o x4 s1 s2 = some r → LW (dC, dI) cA cL a b oa S T o H → va_S (fun q => s.heap.size ≤ q) s.heap H locs → lv_has ls 7 [(0, .ref sb), (1, .ref (a 0)), (2, .ref (b 0)), (3, .ref oa), (4, .int x4)] → W p l e room_1 s m #[Value.ref sb] below meth c H locs C Z (lw_Z below #[Value.ref sb] s) (F0 m 1146 ls [.int s2, .int s1, .ref (a 0)]) := by
      intro S T o x4 s1 s2 H locs ls hf hL hS hl
      unfold f_L_law_1146 at hf
      refine lv_aload_n hx hb dL_law_1146 rfl (lv_at hl 3 rfl) ?_
      obtain ⟨q1, hq1, hf⟩ := ob_some hf
      refine lw_wr (As := [.ref (a 0), .int s1, .int s2, .ref oa]) (rest := []) ⟨hx, hb, hml, hown, hts⟩ (k_L_leastSet l hfl dC dI cA cL a oa S o s1 s2 _ hq1 hF.1 hF.2.2.1) gL_law_L_leastSet rfl rfl rfl cd_L_leastSet (Nat.le_of_ble_eq_true rfl) (Nat.le_of_ble_eq_true rfl) (preL hK hL hF hE hN hS) rfl hl.1 rfl (Nat.le_of_ble_eq_true rfl) (by show C + 2 ≤ 601024; omega) (by show Z + 12 ≤ 7293033; omega) dL_law_1147 hL hF hS (fun H locs hL hS => ?_)
      refine lv_topi (fun y2 ey2 => ?_)
      have hf := bnd_at hf ey2
      refine lv_istore (lv' := [(5, .int y2), (0, .ref sb), (1, .ref (a 0)), (2, .ref (b 0)), (3, .ref oa), (4, .int x4)]) hx hb dL_law_1150 hl (by decide) rfl (fun ls hl => ?_)
      refine lv_aload_n hx hb dL_law_1152 rfl (lv_at hl 3 rfl) ?_
      refine lv_aload_n hx hb dL_law_1153 rfl (lv_at hl 1 rfl) ?_
      refine lv_iload hx hb dL_law_1154 (lv_at hl 5 rfl) ?_
      refine lv_iconst (v := 1) hx hb dL_law_1156 (by decide) ?_
      refine lv_iadd hx hb dL_law_1157 ?_
      obtain ⟨v3, hv3, hf⟩ := ob_some hf
      refine rdSc hx hb hX hbl hbA hS hv3 dL_law_1158 ?_
      refine lv_aload_n hx hb dL_law_1159 rfl (lv_at hl 1 rfl) ?_
      refine lv_iload hx hb dL_law_1160 (lv_at hl 5 rfl) ?_
      refine lv_iconst (v := 2) hx hb dL_law_1162 (by decide) ?_
      refine lv_iadd hx hb dL_law_1163 ?_
      obtain ⟨v4, hv4, hf⟩ := ob_some hf
      refine rdSc hx hb hX hbl hbA hS hv4 dL_law_1164 ?_
      refine lv_if_eq (tgt := 1172) hx hb dL_law_1165 (by decide) (fun c5 => ?_) (fun c5 => ?_)
      · rw [if_pos c5] at hf
        refine lv_iconst (v := 0) hx hb dL_law_1172 (by decide) ?_
        exact hW1173 q1.2.1 T q1.2.2 x4 y2 v3 0 _ _ ls hf hL hS (lv_sub hl [1, 2, 3, 4, 5, 0] rfl)
      · rw [if_neg c5] at hf
        refine lv_iconst (v := 1) hx hb dL_law_1168 (by decide) ?_
        refine lv_goto (tgt := 1173) hx hb dL_law_1169 (by decide) ?_
        exact hW1173 q1.2.1 T q1.2.2 x4 y2 v3 1 _ _ ls hf hL hS (lv_sub hl [1, 2, 3, 4, 5, 0] rfl)
    have hW1257 : ∀ (S : St) (T : St) (o : Nat → Int64) (x4 : Int32) (x5 : Int32) (s1 : Int32) (s2 : Int32) (H : Heap) (locs : List Loc) (ls : Array Slot), f_L_law_1257 L xs (f_L_law_23 L xs k) S T o x4 x5 s1 s2 = some r → LW (dC, dI) cA cL a b oa S T o H → va_S (fun q => s.heap.size ≤ q) s.heap H locs → lv_has ls 7 [(0, .ref sb), (1, .ref (a 0)), (2, .ref (b 0)), (3, .ref oa), (4, .int x4), (5, .int x5)] → W p l e room_1 s m #[Value.ref sb] below meth c H locs (C + 2) (Z + 12) (lw_Z below #[Value.ref sb] s) (F0 m 1257 ls [.int s2, .int s1, .ref (b 0)]) := by
      intro S T o x4 x5 s1 s2 H locs ls hf hL hS hl
      unfold f_L_law_1257 at hf
      obtain ⟨q1, hq1, hf⟩ := ob_some hf
      refine lw_mo (As := [.int s1, .int s2]) (rest := []) ⟨hx, hb, hml, hown, hts⟩ (k_X1_leastSetAnew l dC dI cA b T s1 s2 _ hq1 hF.2.1) gL_law_X1_leastSetAnew rfl rfl rfl cd_X1_leastSetAnew (Nat.le_of_ble_eq_true rfl) (Nat.le_of_ble_eq_true rfl) (preM hK1 hL.2.1) rfl hl.1 rfl (Nat.le_of_ble_eq_true rfl) (by show (C + 2) ≤ 601024; omega) (by show (Z + 12) ≤ 7293033; omega) dL_law_1257 hL hF hS (fun H locs hL hS => ?_)
      refine lv_topi (fun y2 ey2 => ?_)
      have hf := bnd_at hf ey2
      refine lv_istore (lv' := [(6, .int y2), (0, .ref sb), (1, .ref (a 0)), (2, .ref (b 0)), (3, .ref oa), (4, .int x4), (5, .int x5)]) hx hb dL_law_1260 hl (by decide) rfl (fun ls hl => ?_)
      refine lv_aload_n hx hb dL_law_1262 rfl (lv_at hl 3 rfl) ?_
      refine pu_V (As := []) (rest := []) ⟨hx, hb, hml, hown, hts⟩ (k_X1_thrown l dC dI cA b q1.2 _ rfl) gL_law_X1_thrown rfl rfl rfl cd_X1_thrown (Nat.le_of_ble_eq_true rfl) (Nat.le_of_ble_eq_true rfl) (preM hK1 hL.2.1) rfl hl.1 rfl (Nat.le_of_ble_eq_true rfl) (by show (C + 2) ≤ 601024; omega) (by show (Z + 12) ≤ 7293033; omega) dL_law_1263 ?_
      refine lv_iload hx hb dL_law_1266 (lv_at hl 6 rfl) ?_
      refine lv_icmp_eq (tgt := 1273) hx hb dL_law_1268 (by decide) (fun c3 => ?_) (fun c3 => ?_)
      · rw [if_pos c3] at hf
        refine lv_iload hx hb dL_law_1273 (lv_at hl 6 rfl) ?_
        refine lv_if_ne (tgt := 1290) hx hb dL_law_1275 (by decide) (fun c4 => ?_) (fun c4 => ?_)
        · rw [if_neg c4] at hf
          refine lv_goto (tgt := 1715) hx hb dL_law_1290 (by decide) ?_
          obtain ⟨y5, ey5⟩ : ∃ y : Int32, y = (x4 + 4) := ⟨_, rfl⟩
          have hf := bnd_at hf ey5
          refine lv_iinc (v := y5) (lv' := [(4, .int y5), (6, .int y2), (0, .ref sb), (1, .ref (a 0)), (2, .ref (b 0)), (3, .ref oa), (5, .int x5)]) hx hb dL_law_1715 hl (k := 5) rfl (by rw [ey5]; rfl) (by decide) rfl (fun ls hl => ?_)
          refine lv_goto (tgt := 23) hx hb dL_law_1718 (by decide) ?_
          exact ih23 (C + 2) (Z + 12) S q1.2 o y5 _ _ (by omega) (by omega) ls hf hL hS (lv_sub hl [2, 3, 4, 5, 0] rfl)
        · rw [if_pos c4] at hf
          refine lv_aload_n hx hb dL_law_1278 rfl (lv_at hl 4 rfl) ?_
          refine lv_iconst (v := 0) hx hb dL_law_1279 (by decide) ?_
          refine va_lald hx hb hK hL.2.2 0 1 rfl rfl in01 dL_law_1280 ?_
          refine lv_iload hx hb dL_law_1281 (lv_at hl 0 rfl) ?_
          refine lv_i2l (v := (y2.toInt64)) hx hb dL_law_1283 rfl ?_
          refine W.lcmp hx hb dL_law_1284 ?_
          refine lv_if_eq (tgt := 1290) hx hb dL_law_1285 (by decide) (fun c6 => ?_) (fun c6 => ?_)
          · rw [if_pos c6] at hf
            refine lv_goto (tgt := 1715) hx hb dL_law_1290 (by decide) ?_
            obtain ⟨y7, ey7⟩ : ∃ y : Int32, y = (x4 + 4) := ⟨_, rfl⟩
            have hf := bnd_at hf ey7
            refine lv_iinc (v := y7) (lv' := [(4, .int y7), (6, .int y2), (0, .ref sb), (1, .ref (a 0)), (2, .ref (b 0)), (3, .ref oa), (5, .int x5)]) hx hb dL_law_1715 hl (k := 5) rfl (by rw [ey7]; rfl) (by decide) rfl (fun ls hl => ?_)
            refine lv_goto (tgt := 23) hx hb dL_law_1718 (by decide) ?_
            exact ih23 (C + 2) (Z + 12) S q1.2 o y7 _ _ (by omega) (by omega) ls hf hL hS (lv_sub hl [2, 3, 4, 5, 0] rfl)
          · rw [if_neg c6] at hf
            refine lv_iconst (v := 0) hx hb dL_law_1288 (by decide) ?_
            cases hf
      · rw [if_neg c3] at hf
        refine lv_iconst (v := 0) hx hb dL_law_1271 (by decide) ?_
        cases hf
    have hW1230 : ∀ (S : St) (T : St) (o : Nat → Int64) (x4 : Int32) (s1 : Int32) (s2 : Int32) (H : Heap) (locs : List Loc) (ls : Array Slot), f_L_law_1230 L xs (f_L_law_23 L xs k) S T o x4 s1 s2 = some r → LW (dC, dI) cA cL a b oa S T o H → va_S (fun q => s.heap.size ≤ q) s.heap H locs → lv_has ls 7 [(0, .ref sb), (1, .ref (a 0)), (2, .ref (b 0)), (3, .ref oa), (4, .int x4)] → W p l e room_1 s m #[Value.ref sb] below meth c H locs C Z (lw_Z below #[Value.ref sb] s) (F0 m 1230 ls [.int s2, .int s1, .ref (a 0)]) := by
      intro S T o x4 s1 s2 H locs ls hf hL hS hl
      unfold f_L_law_1230 at hf
      refine lv_aload_n hx hb dL_law_1230 rfl (lv_at hl 3 rfl) ?_
      obtain ⟨q1, hq1, hf⟩ := ob_some hf
      refine lw_wr (As := [.ref (a 0), .int s1, .int s2, .ref oa]) (rest := []) ⟨hx, hb, hml, hown, hts⟩ (k_L_leastSetAnew l hfl dC dI cA cL a oa S o s1 s2 _ hq1 hF.1 hF.2.2.1) gL_law_L_leastSetAnew rfl rfl rfl cd_L_leastSetAnew (Nat.le_of_ble_eq_true rfl) (Nat.le_of_ble_eq_true rfl) (preL hK hL hF hE hN hS) rfl hl.1 rfl (Nat.le_of_ble_eq_true rfl) (by show C + 2 ≤ 601024; omega) (by show Z + 12 ≤ 7293033; omega) dL_law_1231 hL hF hS (fun H locs hL hS => ?_)
      refine lv_topi (fun y2 ey2 => ?_)
      have hf := bnd_at hf ey2
      refine lv_istore (lv' := [(5, .int y2), (0, .ref sb), (1, .ref (a 0)), (2, .ref (b 0)), (3, .ref oa), (4, .int x4)]) hx hb dL_law_1234 hl (by decide) rfl (fun ls hl => ?_)
      refine lv_aload_n hx hb dL_law_1236 rfl (lv_at hl 3 rfl) ?_
      refine lv_aload_n hx hb dL_law_1237 rfl (lv_at hl 1 rfl) ?_
      refine lv_iload hx hb dL_law_1238 (lv_at hl 5 rfl) ?_
      refine lv_iconst (v := 1) hx hb dL_law_1240 (by decide) ?_
      refine lv_iadd hx hb dL_law_1241 ?_
      obtain ⟨v3, hv3, hf⟩ := ob_some hf
      refine rdSc hx hb hX hbl hbA hS hv3 dL_law_1242 ?_
      refine lv_aload_n hx hb dL_law_1243 rfl (lv_at hl 1 rfl) ?_
      refine lv_iload hx hb dL_law_1244 (lv_at hl 5 rfl) ?_
      refine lv_iconst (v := 2) hx hb dL_law_1246 (by decide) ?_
      refine lv_iadd hx hb dL_law_1247 ?_
      obtain ⟨v4, hv4, hf⟩ := ob_some hf
      refine rdSc hx hb hX hbl hbA hS hv4 dL_law_1248 ?_
      refine lv_if_eq (tgt := 1256) hx hb dL_law_1249 (by decide) (fun c5 => ?_) (fun c5 => ?_)
      · rw [if_pos c5] at hf
        refine lv_iconst (v := 0) hx hb dL_law_1256 (by decide) ?_
        exact hW1257 q1.2.1 T q1.2.2 x4 y2 v3 0 _ _ ls hf hL hS (lv_sub hl [1, 2, 3, 4, 5, 0] rfl)
      · rw [if_neg c5] at hf
        refine lv_iconst (v := 1) hx hb dL_law_1252 (by decide) ?_
        refine lv_goto (tgt := 1257) hx hb dL_law_1253 (by decide) ?_
        exact hW1257 q1.2.1 T q1.2.2 x4 y2 v3 1 _ _ ls hf hL hS (lv_sub hl [1, 2, 3, 4, 5, 0] rfl)
    intro S T o x4 H locs ls hf hL hS hl
    rw [f_L_law_23] at hf
    unfold f_L_body at hf
    refine lv_iload hx hb dL_law_23 (lv_at hl 4 rfl) ?_
    refine lv_aload_n hx hb dL_law_25 rfl (lv_at hl 0 rfl) ?_
    refine va_slen hx hb hX hbl hbA hS dL_law_26 ?_
    refine lv_iconst (v := 4) hx hb dL_law_27 (by decide) ?_
    refine lv_isub hx hb dL_law_28 ?_
    refine lv_icmp_gt (tgt := 1721) hx hb dL_law_29 (by decide) (fun c1 => ?_) (fun c1 => ?_)
    · rw [if_pos c1] at hf
      refine lv_iconst (v := 1) hx hb dL_law_1721 (by decide) ?_
      refine va_forget (fun q hq => hS.2.2 q hq) ?_
      refine W.widen (k := 601024) (n := 7293033) (by omega) (by omega) ?_
      exact lw_ret hx hb hr hlocks dL_law_1722
    · rw [if_neg c1] at hf
      refine lv_aload_n hx hb dL_law_32 rfl (lv_at hl 0 rfl) ?_
      refine lv_iload hx hb dL_law_33 (lv_at hl 4 rfl) ?_
      obtain ⟨v2, hv2, hf⟩ := ob_some hf
      refine rdSc hx hb hX hbl hbA hS hv2 dL_law_35 ?_
      refine lv_bipush (v := 31) hx hb dL_law_36 (by decide) ?_
      refine lv_iand hx hb dL_law_38 ?_
      obtain ⟨y3, ey3⟩ : ∃ y : Int32, y = (v2 &&& 31) := ⟨_, rfl⟩
      have hf := bnd_at hf ey3
      rw [← ey3]
      by_cases c4 : y3 = 0
      · rw [if_pos c4] at hf
        refine lv_tableIn (off := 109) (tgt := 148) hx hb dL_law_39 (by rw [c4]; decide) (by rw [c4]; decide) (by rw [c4]; rfl) (by decide) ?_
        refine lv_aload_n hx hb dL_law_148 rfl (lv_at hl 1 rfl) ?_
        refine lv_aload_n hx hb dL_law_149 rfl (lv_at hl 0 rfl) ?_
        refine lv_iload hx hb dL_law_150 (lv_at hl 4 rfl) ?_
        refine lv_iconst (v := 1) hx hb dL_law_152 (by decide) ?_
        refine lv_iadd hx hb dL_law_153 ?_
        obtain ⟨v5, hv5, hf⟩ := ob_some hf
        refine rdSc hx hb hX hbl hbA hS hv5 dL_law_154 ?_
        refine lv_aload_n hx hb dL_law_155 rfl (lv_at hl 3 rfl) ?_
        obtain ⟨q6, hq6, hf⟩ := ob_some hf
        refine lw_wr (As := [.ref (a 0), .int v5, .ref oa]) (rest := []) ⟨hx, hb, hml, hown, hts⟩ (k_L_elements l hfl dC dI cA cL a oa S o v5 _ hq6 hF.1 hF.2.2.1) gL_law_L_elements rfl rfl rfl cd_L_elements (Nat.le_of_ble_eq_true rfl) (Nat.le_of_ble_eq_true rfl) (preL hK hL hF hE hN hS) rfl hl.1 rfl (Nat.le_of_ble_eq_true rfl) (by show C + 1 ≤ 601024; omega) (by show Z + 6 ≤ 7293033; omega) dL_law_156 hL hF hS (fun H locs hL hS => ?_)
        refine lv_topi (fun y7 ey7 => ?_)
        have hf := bnd_at hf ey7
        refine lv_istore (lv' := [(5, .int y7), (0, .ref sb), (1, .ref (a 0)), (2, .ref (b 0)), (3, .ref oa), (4, .int x4)]) hx hb dL_law_159 hl (by decide) rfl (fun ls hl => ?_)
        refine lv_aload_n hx hb dL_law_161 rfl (lv_at hl 3 rfl) ?_
        refine lv_aload_n hx hb dL_law_162 rfl (lv_at hl 1 rfl) ?_
        refine lv_iload hx hb dL_law_163 (lv_at hl 5 rfl) ?_
        refine lv_iconst (v := 1) hx hb dL_law_165 (by decide) ?_
        refine lv_iadd hx hb dL_law_166 ?_
        obtain ⟨v8, hv8, hf⟩ := ob_some hf
        refine rdSc hx hb hX hbl hbA hS hv8 dL_law_167 ?_
        obtain ⟨q9, hq9, hf⟩ := ob_some hf
        refine lw_mo (As := [.int v8]) (rest := []) ⟨hx, hb, hml, hown, hts⟩ (k_X1_elements l dC dI cA b T v8 _ hq9 hF.2.1) gL_law_X1_elements rfl rfl rfl cd_X1_elements (Nat.le_of_ble_eq_true rfl) (Nat.le_of_ble_eq_true rfl) (preM hK1 hL.2.1) rfl hl.1 rfl (Nat.le_of_ble_eq_true rfl) (by show (C + 1) ≤ 601024; omega) (by show (Z + 6) ≤ 7293033; omega) dL_law_168 hL hF hS (fun H locs hL hS => ?_)
        refine lv_topi (fun y10 ey10 => ?_)
        have hf := bnd_at hf ey10
        refine lv_istore (lv' := [(6, .int y10), (5, .int y7), (0, .ref sb), (1, .ref (a 0)), (2, .ref (b 0)), (3, .ref oa), (4, .int x4)]) hx hb dL_law_171 hl (by decide) rfl (fun ls hl => ?_)
        refine lv_aload_n hx hb dL_law_173 rfl (lv_at hl 4 rfl) ?_
        refine pu_V (As := []) (rest := []) ⟨hx, hb, hml, hown, hts⟩ (k_X1_thrown l dC dI cA b q9.2 _ rfl) gL_law_X1_thrown rfl rfl rfl cd_X1_thrown (Nat.le_of_ble_eq_true rfl) (Nat.le_of_ble_eq_true rfl) (preM hK1 hL.2.1) rfl hl.1 rfl (Nat.le_of_ble_eq_true rfl) (by show (C + 1) ≤ 601024; omega) (by show (Z + 6) ≤ 7293033; omega) dL_law_174 ?_
        refine lv_iload hx hb dL_law_177 (lv_at hl 1 rfl) ?_
        refine lv_icmp_eq (tgt := 184) hx hb dL_law_179 (by decide) (fun c11 => ?_) (fun c11 => ?_)
        · rw [if_pos c11] at hf
          refine lv_iload hx hb dL_law_184 (lv_at hl 1 rfl) ?_
          refine lv_if_ne (tgt := 201) hx hb dL_law_186 (by decide) (fun c12 => ?_) (fun c12 => ?_)
          · rw [if_neg c12] at hf
            refine lv_goto (tgt := 1715) hx hb dL_law_201 (by decide) ?_
            obtain ⟨y13, ey13⟩ : ∃ y : Int32, y = (x4 + 4) := ⟨_, rfl⟩
            have hf := bnd_at hf ey13
            refine lv_iinc (v := y13) (lv' := [(4, .int y13), (6, .int y10), (5, .int y7), (0, .ref sb), (1, .ref (a 0)), (2, .ref (b 0)), (3, .ref oa)]) hx hb dL_law_1715 hl (k := 6) rfl (by rw [ey13]; rfl) (by decide) rfl (fun ls hl => ?_)
            refine lv_goto (tgt := 23) hx hb dL_law_1718 (by decide) ?_
            exact ih23 (C + 1) (Z + 6) q6.2.1 q9.2 q6.2.2 y13 _ _ (by omega) (by omega) ls hf hL hS (lv_sub hl [3, 4, 5, 6, 0] rfl)
          · rw [if_pos c12] at hf
            refine lv_aload_n hx hb dL_law_189 rfl (lv_at hl 5 rfl) ?_
            refine lv_iconst (v := 0) hx hb dL_law_190 (by decide) ?_
            refine va_lald hx hb hK hL.2.2 0 1 rfl rfl in01 dL_law_191 ?_
            refine lv_iload hx hb dL_law_192 (lv_at hl 0 rfl) ?_
            refine lv_i2l (v := (y10.toInt64)) hx hb dL_law_194 rfl ?_
            refine W.lcmp hx hb dL_law_195 ?_
            refine lv_if_eq (tgt := 201) hx hb dL_law_196 (by decide) (fun c14 => ?_) (fun c14 => ?_)
            · rw [if_pos c14] at hf
              refine lv_goto (tgt := 1715) hx hb dL_law_201 (by decide) ?_
              obtain ⟨y15, ey15⟩ : ∃ y : Int32, y = (x4 + 4) := ⟨_, rfl⟩
              have hf := bnd_at hf ey15
              refine lv_iinc (v := y15) (lv' := [(4, .int y15), (6, .int y10), (5, .int y7), (0, .ref sb), (1, .ref (a 0)), (2, .ref (b 0)), (3, .ref oa)]) hx hb dL_law_1715 hl (k := 6) rfl (by rw [ey15]; rfl) (by decide) rfl (fun ls hl => ?_)
              refine lv_goto (tgt := 23) hx hb dL_law_1718 (by decide) ?_
              exact ih23 (C + 1) (Z + 6) q6.2.1 q9.2 q6.2.2 y15 _ _ (by omega) (by omega) ls hf hL hS (lv_sub hl [3, 4, 5, 6, 0] rfl)
            · rw [if_neg c14] at hf
              refine lv_iconst (v := 0) hx hb dL_law_199 (by decide) ?_
              cases hf
        · rw [if_neg c11] at hf
          refine lv_iconst (v := 0) hx hb dL_law_182 (by decide) ?_
          cases hf
      rw [if_neg c4] at hf
      by_cases c16 : y3 = 1
      · rw [if_pos c16] at hf
        refine lv_tableIn (off := 165) (tgt := 204) hx hb dL_law_39 (by rw [c16]; decide) (by rw [c16]; decide) (by rw [c16]; rfl) (by decide) ?_
        refine lv_aload_n hx hb dL_law_204 rfl (lv_at hl 1 rfl) ?_
        refine lv_aload_n hx hb dL_law_205 rfl (lv_at hl 0 rfl) ?_
        refine lv_iload hx hb dL_law_206 (lv_at hl 4 rfl) ?_
        refine lv_iconst (v := 1) hx hb dL_law_208 (by decide) ?_
        refine lv_iadd hx hb dL_law_209 ?_
        obtain ⟨v17, hv17, hf⟩ := ob_some hf
        refine rdSc hx hb hX hbl hbA hS hv17 dL_law_210 ?_
        refine lv_aload_n hx hb dL_law_211 rfl (lv_at hl 0 rfl) ?_
        refine lv_iload hx hb dL_law_212 (lv_at hl 4 rfl) ?_
        refine lv_iconst (v := 2) hx hb dL_law_214 (by decide) ?_
        refine lv_iadd hx hb dL_law_215 ?_
        obtain ⟨v18, hv18, hf⟩ := ob_some hf
        refine rdSc hx hb hX hbl hbA hS hv18 dL_law_216 ?_
        refine lv_aload_n hx hb dL_law_217 rfl (lv_at hl 0 rfl) ?_
        refine lv_iload hx hb dL_law_218 (lv_at hl 4 rfl) ?_
        refine lv_iconst (v := 3) hx hb dL_law_220 (by decide) ?_
        refine lv_iadd hx hb dL_law_221 ?_
        obtain ⟨v19, hv19, hf⟩ := ob_some hf
        refine rdSc hx hb hX hbl hbA hS hv19 dL_law_222 ?_
        refine lv_if_eq (tgt := 230) hx hb dL_law_223 (by decide) (fun c20 => ?_) (fun c20 => ?_)
        · rw [if_pos c20] at hf
          refine lv_iconst (v := 0) hx hb dL_law_230 (by decide) ?_
          exact hW231 S T o x4 v17 v18 0 _ _ ls hf hL hS (lv_sub hl [0, 1, 2, 3, 4] rfl)
        · rw [if_neg c20] at hf
          refine lv_iconst (v := 1) hx hb dL_law_226 (by decide) ?_
          refine lv_goto (tgt := 231) hx hb dL_law_227 (by decide) ?_
          exact hW231 S T o x4 v17 v18 1 _ _ ls hf hL hS (lv_sub hl [0, 1, 2, 3, 4] rfl)
      rw [if_neg c16] at hf
      by_cases c21 : y3 = 2
      · rw [if_pos c21] at hf
        refine lv_tableIn (off := 268) (tgt := 307) hx hb dL_law_39 (by rw [c21]; decide) (by rw [c21]; decide) (by rw [c21]; rfl) (by decide) ?_
        refine lv_aload_n hx hb dL_law_307 rfl (lv_at hl 1 rfl) ?_
        refine lv_aload_n hx hb dL_law_308 rfl (lv_at hl 0 rfl) ?_
        refine lv_iload hx hb dL_law_309 (lv_at hl 4 rfl) ?_
        refine lv_iconst (v := 1) hx hb dL_law_311 (by decide) ?_
        refine lv_iadd hx hb dL_law_312 ?_
        obtain ⟨v22, hv22, hf⟩ := ob_some hf
        refine rdSc hx hb hX hbl hbA hS hv22 dL_law_313 ?_
        refine lv_aload_n hx hb dL_law_314 rfl (lv_at hl 0 rfl) ?_
        refine lv_iload hx hb dL_law_315 (lv_at hl 4 rfl) ?_
        refine lv_iconst (v := 2) hx hb dL_law_317 (by decide) ?_
        refine lv_iadd hx hb dL_law_318 ?_
        obtain ⟨v23, hv23, hf⟩ := ob_some hf
        refine rdSc hx hb hX hbl hbA hS hv23 dL_law_319 ?_
        refine lv_aload_n hx hb dL_law_320 rfl (lv_at hl 0 rfl) ?_
        refine lv_iload hx hb dL_law_321 (lv_at hl 4 rfl) ?_
        refine lv_iconst (v := 3) hx hb dL_law_323 (by decide) ?_
        refine lv_iadd hx hb dL_law_324 ?_
        obtain ⟨v24, hv24, hf⟩ := ob_some hf
        refine rdSc hx hb hX hbl hbA hS hv24 dL_law_325 ?_
        refine lv_aload_n hx hb dL_law_326 rfl (lv_at hl 3 rfl) ?_
        obtain ⟨q25, hq25, hf⟩ := ob_some hf
        refine lw_wr (As := [.ref (a 0), .int v22, .int v23, .int v24, .ref oa]) (rest := []) ⟨hx, hb, hml, hown, hts⟩ (k_L_edge l hfl dC dI cA cL a oa S o v22 v23 v24 _ hq25 hF.1 hF.2.2.1) gL_law_L_edge rfl rfl rfl cd_L_edge (Nat.le_of_ble_eq_true rfl) (Nat.le_of_ble_eq_true rfl) (preL hK hL hF hE hN hS) rfl hl.1 rfl (Nat.le_of_ble_eq_true rfl) (by show C + 2 ≤ 601024; omega) (by show Z + 12 ≤ 7293033; omega) dL_law_327 hL hF hS (fun H locs hL hS => ?_)
        refine lv_topi (fun y26 ey26 => ?_)
        have hf := bnd_at hf ey26
        refine lv_istore (lv' := [(5, .int y26), (0, .ref sb), (1, .ref (a 0)), (2, .ref (b 0)), (3, .ref oa), (4, .int x4)]) hx hb dL_law_330 hl (by decide) rfl (fun ls hl => ?_)
        refine lv_aload_n hx hb dL_law_332 rfl (lv_at hl 3 rfl) ?_
        refine lv_aload_n hx hb dL_law_333 rfl (lv_at hl 1 rfl) ?_
        refine lv_iload hx hb dL_law_334 (lv_at hl 5 rfl) ?_
        refine lv_iconst (v := 1) hx hb dL_law_336 (by decide) ?_
        refine lv_iadd hx hb dL_law_337 ?_
        obtain ⟨v27, hv27, hf⟩ := ob_some hf
        refine rdSc hx hb hX hbl hbA hS hv27 dL_law_338 ?_
        refine lv_aload_n hx hb dL_law_339 rfl (lv_at hl 1 rfl) ?_
        refine lv_iload hx hb dL_law_340 (lv_at hl 5 rfl) ?_
        refine lv_iconst (v := 2) hx hb dL_law_342 (by decide) ?_
        refine lv_iadd hx hb dL_law_343 ?_
        obtain ⟨v28, hv28, hf⟩ := ob_some hf
        refine rdSc hx hb hX hbl hbA hS hv28 dL_law_344 ?_
        refine lv_aload_n hx hb dL_law_345 rfl (lv_at hl 1 rfl) ?_
        refine lv_iload hx hb dL_law_346 (lv_at hl 5 rfl) ?_
        refine lv_iconst (v := 3) hx hb dL_law_348 (by decide) ?_
        refine lv_iadd hx hb dL_law_349 ?_
        obtain ⟨v29, hv29, hf⟩ := ob_some hf
        refine rdSc hx hb hX hbl hbA hS hv29 dL_law_350 ?_
        obtain ⟨q30, hq30, hf⟩ := ob_some hf
        refine lw_mo (As := [.int v27, .int v28, .int v29]) (rest := []) ⟨hx, hb, hml, hown, hts⟩ (k_X1_edge l dC dI cA b T v27 v28 v29 _ hq30 hF.2.1) gL_law_X1_edge rfl rfl rfl cd_X1_edge (Nat.le_of_ble_eq_true rfl) (Nat.le_of_ble_eq_true rfl) (preM hK1 hL.2.1) rfl hl.1 rfl (Nat.le_of_ble_eq_true rfl) (by show (C + 2) ≤ 601024; omega) (by show (Z + 12) ≤ 7293033; omega) dL_law_351 hL hF hS (fun H locs hL hS => ?_)
        refine lv_topi (fun y31 ey31 => ?_)
        have hf := bnd_at hf ey31
        refine lv_istore (lv' := [(6, .int y31), (5, .int y26), (0, .ref sb), (1, .ref (a 0)), (2, .ref (b 0)), (3, .ref oa), (4, .int x4)]) hx hb dL_law_354 hl (by decide) rfl (fun ls hl => ?_)
        refine lv_aload_n hx hb dL_law_356 rfl (lv_at hl 4 rfl) ?_
        refine pu_V (As := []) (rest := []) ⟨hx, hb, hml, hown, hts⟩ (k_X1_thrown l dC dI cA b q30.2 _ rfl) gL_law_X1_thrown rfl rfl rfl cd_X1_thrown (Nat.le_of_ble_eq_true rfl) (Nat.le_of_ble_eq_true rfl) (preM hK1 hL.2.1) rfl hl.1 rfl (Nat.le_of_ble_eq_true rfl) (by show (C + 2) ≤ 601024; omega) (by show (Z + 12) ≤ 7293033; omega) dL_law_357 ?_
        refine lv_iload hx hb dL_law_360 (lv_at hl 1 rfl) ?_
        refine lv_icmp_eq (tgt := 367) hx hb dL_law_362 (by decide) (fun c32 => ?_) (fun c32 => ?_)
        · rw [if_pos c32] at hf
          refine lv_iload hx hb dL_law_367 (lv_at hl 1 rfl) ?_
          refine lv_if_ne (tgt := 384) hx hb dL_law_369 (by decide) (fun c33 => ?_) (fun c33 => ?_)
          · rw [if_neg c33] at hf
            refine lv_goto (tgt := 1715) hx hb dL_law_384 (by decide) ?_
            obtain ⟨y34, ey34⟩ : ∃ y : Int32, y = (x4 + 4) := ⟨_, rfl⟩
            have hf := bnd_at hf ey34
            refine lv_iinc (v := y34) (lv' := [(4, .int y34), (6, .int y31), (5, .int y26), (0, .ref sb), (1, .ref (a 0)), (2, .ref (b 0)), (3, .ref oa)]) hx hb dL_law_1715 hl (k := 6) rfl (by rw [ey34]; rfl) (by decide) rfl (fun ls hl => ?_)
            refine lv_goto (tgt := 23) hx hb dL_law_1718 (by decide) ?_
            exact ih23 (C + 2) (Z + 12) q25.2.1 q30.2 q25.2.2 y34 _ _ (by omega) (by omega) ls hf hL hS (lv_sub hl [3, 4, 5, 6, 0] rfl)
          · rw [if_pos c33] at hf
            refine lv_aload_n hx hb dL_law_372 rfl (lv_at hl 5 rfl) ?_
            refine lv_iconst (v := 0) hx hb dL_law_373 (by decide) ?_
            refine va_lald hx hb hK hL.2.2 0 1 rfl rfl in01 dL_law_374 ?_
            refine lv_iload hx hb dL_law_375 (lv_at hl 0 rfl) ?_
            refine lv_i2l (v := (y31.toInt64)) hx hb dL_law_377 rfl ?_
            refine W.lcmp hx hb dL_law_378 ?_
            refine lv_if_eq (tgt := 384) hx hb dL_law_379 (by decide) (fun c35 => ?_) (fun c35 => ?_)
            · rw [if_pos c35] at hf
              refine lv_goto (tgt := 1715) hx hb dL_law_384 (by decide) ?_
              obtain ⟨y36, ey36⟩ : ∃ y : Int32, y = (x4 + 4) := ⟨_, rfl⟩
              have hf := bnd_at hf ey36
              refine lv_iinc (v := y36) (lv' := [(4, .int y36), (6, .int y31), (5, .int y26), (0, .ref sb), (1, .ref (a 0)), (2, .ref (b 0)), (3, .ref oa)]) hx hb dL_law_1715 hl (k := 6) rfl (by rw [ey36]; rfl) (by decide) rfl (fun ls hl => ?_)
              refine lv_goto (tgt := 23) hx hb dL_law_1718 (by decide) ?_
              exact ih23 (C + 2) (Z + 12) q25.2.1 q30.2 q25.2.2 y36 _ _ (by omega) (by omega) ls hf hL hS (lv_sub hl [3, 4, 5, 6, 0] rfl)
            · rw [if_neg c35] at hf
              refine lv_iconst (v := 0) hx hb dL_law_382 (by decide) ?_
              cases hf
        · rw [if_neg c32] at hf
          refine lv_iconst (v := 0) hx hb dL_law_365 (by decide) ?_
          cases hf
      rw [if_neg c21] at hf
      by_cases c37 : y3 = 3
      · rw [if_pos c37] at hf
        refine lv_tableIn (off := 348) (tgt := 387) hx hb dL_law_39 (by rw [c37]; decide) (by rw [c37]; decide) (by rw [c37]; rfl) (by decide) ?_
        refine lv_aload_n hx hb dL_law_387 rfl (lv_at hl 1 rfl) ?_
        refine lv_aload_n hx hb dL_law_388 rfl (lv_at hl 0 rfl) ?_
        refine lv_iload hx hb dL_law_389 (lv_at hl 4 rfl) ?_
        refine lv_iconst (v := 1) hx hb dL_law_391 (by decide) ?_
        refine lv_iadd hx hb dL_law_392 ?_
        obtain ⟨v38, hv38, hf⟩ := ob_some hf
        refine rdSc hx hb hX hbl hbA hS hv38 dL_law_393 ?_
        refine lv_aload_n hx hb dL_law_394 rfl (lv_at hl 0 rfl) ?_
        refine lv_iload hx hb dL_law_395 (lv_at hl 4 rfl) ?_
        refine lv_iconst (v := 2) hx hb dL_law_397 (by decide) ?_
        refine lv_iadd hx hb dL_law_398 ?_
        obtain ⟨v39, hv39, hf⟩ := ob_some hf
        refine rdSc hx hb hX hbl hbA hS hv39 dL_law_399 ?_
        refine lv_aload_n hx hb dL_law_400 rfl (lv_at hl 0 rfl) ?_
        refine lv_iload hx hb dL_law_401 (lv_at hl 4 rfl) ?_
        refine lv_iconst (v := 3) hx hb dL_law_403 (by decide) ?_
        refine lv_iadd hx hb dL_law_404 ?_
        obtain ⟨v40, hv40, hf⟩ := ob_some hf
        refine rdSc hx hb hX hbl hbA hS hv40 dL_law_405 ?_
        refine lv_aload_n hx hb dL_law_406 rfl (lv_at hl 3 rfl) ?_
        obtain ⟨q41, hq41, hf⟩ := ob_some hf
        refine lw_wr (As := [.ref (a 0), .int v38, .int v39, .int v40, .ref oa]) (rest := []) ⟨hx, hb, hml, hown, hts⟩ (k_L_colour l hfl dC dI cA cL a oa S o v38 v39 v40 _ hq41 hF.1 hF.2.2.1) gL_law_L_colour rfl rfl rfl cd_L_colour (Nat.le_of_ble_eq_true rfl) (Nat.le_of_ble_eq_true rfl) (preL hK hL hF hE hN hS) rfl hl.1 rfl (Nat.le_of_ble_eq_true rfl) (by show C + 1 ≤ 601024; omega) (by show Z + 6 ≤ 7293033; omega) dL_law_407 hL hF hS (fun H locs hL hS => ?_)
        refine lv_topi (fun y42 ey42 => ?_)
        have hf := bnd_at hf ey42
        refine lv_istore (lv' := [(5, .int y42), (0, .ref sb), (1, .ref (a 0)), (2, .ref (b 0)), (3, .ref oa), (4, .int x4)]) hx hb dL_law_410 hl (by decide) rfl (fun ls hl => ?_)
        refine lv_aload_n hx hb dL_law_412 rfl (lv_at hl 3 rfl) ?_
        refine lv_aload_n hx hb dL_law_413 rfl (lv_at hl 1 rfl) ?_
        refine lv_iload hx hb dL_law_414 (lv_at hl 5 rfl) ?_
        refine lv_iconst (v := 1) hx hb dL_law_416 (by decide) ?_
        refine lv_iadd hx hb dL_law_417 ?_
        obtain ⟨v43, hv43, hf⟩ := ob_some hf
        refine rdSc hx hb hX hbl hbA hS hv43 dL_law_418 ?_
        refine lv_aload_n hx hb dL_law_419 rfl (lv_at hl 1 rfl) ?_
        refine lv_iload hx hb dL_law_420 (lv_at hl 5 rfl) ?_
        refine lv_iconst (v := 2) hx hb dL_law_422 (by decide) ?_
        refine lv_iadd hx hb dL_law_423 ?_
        obtain ⟨v44, hv44, hf⟩ := ob_some hf
        refine rdSc hx hb hX hbl hbA hS hv44 dL_law_424 ?_
        refine lv_aload_n hx hb dL_law_425 rfl (lv_at hl 1 rfl) ?_
        refine lv_iload hx hb dL_law_426 (lv_at hl 5 rfl) ?_
        refine lv_iconst (v := 3) hx hb dL_law_428 (by decide) ?_
        refine lv_iadd hx hb dL_law_429 ?_
        obtain ⟨v45, hv45, hf⟩ := ob_some hf
        refine rdSc hx hb hX hbl hbA hS hv45 dL_law_430 ?_
        obtain ⟨q46, hq46, hf⟩ := ob_some hf
        refine lw_mo (As := [.int v43, .int v44, .int v45]) (rest := []) ⟨hx, hb, hml, hown, hts⟩ (k_X1_colour l dC dI cA b T v43 v44 v45 _ hq46 hF.2.1) gL_law_X1_colour rfl rfl rfl cd_X1_colour (Nat.le_of_ble_eq_true rfl) (Nat.le_of_ble_eq_true rfl) (preM hK1 hL.2.1) rfl hl.1 rfl (Nat.le_of_ble_eq_true rfl) (by show (C + 1) ≤ 601024; omega) (by show (Z + 6) ≤ 7293033; omega) dL_law_431 hL hF hS (fun H locs hL hS => ?_)
        refine lv_topi (fun y47 ey47 => ?_)
        have hf := bnd_at hf ey47
        refine lv_istore (lv' := [(6, .int y47), (5, .int y42), (0, .ref sb), (1, .ref (a 0)), (2, .ref (b 0)), (3, .ref oa), (4, .int x4)]) hx hb dL_law_434 hl (by decide) rfl (fun ls hl => ?_)
        refine lv_aload_n hx hb dL_law_436 rfl (lv_at hl 4 rfl) ?_
        refine pu_V (As := []) (rest := []) ⟨hx, hb, hml, hown, hts⟩ (k_X1_thrown l dC dI cA b q46.2 _ rfl) gL_law_X1_thrown rfl rfl rfl cd_X1_thrown (Nat.le_of_ble_eq_true rfl) (Nat.le_of_ble_eq_true rfl) (preM hK1 hL.2.1) rfl hl.1 rfl (Nat.le_of_ble_eq_true rfl) (by show (C + 1) ≤ 601024; omega) (by show (Z + 6) ≤ 7293033; omega) dL_law_437 ?_
        refine lv_iload hx hb dL_law_440 (lv_at hl 1 rfl) ?_
        refine lv_icmp_eq (tgt := 447) hx hb dL_law_442 (by decide) (fun c48 => ?_) (fun c48 => ?_)
        · rw [if_pos c48] at hf
          refine lv_iload hx hb dL_law_447 (lv_at hl 1 rfl) ?_
          refine lv_if_ne (tgt := 464) hx hb dL_law_449 (by decide) (fun c49 => ?_) (fun c49 => ?_)
          · rw [if_neg c49] at hf
            refine lv_goto (tgt := 1715) hx hb dL_law_464 (by decide) ?_
            obtain ⟨y50, ey50⟩ : ∃ y : Int32, y = (x4 + 4) := ⟨_, rfl⟩
            have hf := bnd_at hf ey50
            refine lv_iinc (v := y50) (lv' := [(4, .int y50), (6, .int y47), (5, .int y42), (0, .ref sb), (1, .ref (a 0)), (2, .ref (b 0)), (3, .ref oa)]) hx hb dL_law_1715 hl (k := 6) rfl (by rw [ey50]; rfl) (by decide) rfl (fun ls hl => ?_)
            refine lv_goto (tgt := 23) hx hb dL_law_1718 (by decide) ?_
            exact ih23 (C + 1) (Z + 6) q41.2.1 q46.2 q41.2.2 y50 _ _ (by omega) (by omega) ls hf hL hS (lv_sub hl [3, 4, 5, 6, 0] rfl)
          · rw [if_pos c49] at hf
            refine lv_aload_n hx hb dL_law_452 rfl (lv_at hl 5 rfl) ?_
            refine lv_iconst (v := 0) hx hb dL_law_453 (by decide) ?_
            refine va_lald hx hb hK hL.2.2 0 1 rfl rfl in01 dL_law_454 ?_
            refine lv_iload hx hb dL_law_455 (lv_at hl 0 rfl) ?_
            refine lv_i2l (v := (y47.toInt64)) hx hb dL_law_457 rfl ?_
            refine W.lcmp hx hb dL_law_458 ?_
            refine lv_if_eq (tgt := 464) hx hb dL_law_459 (by decide) (fun c51 => ?_) (fun c51 => ?_)
            · rw [if_pos c51] at hf
              refine lv_goto (tgt := 1715) hx hb dL_law_464 (by decide) ?_
              obtain ⟨y52, ey52⟩ : ∃ y : Int32, y = (x4 + 4) := ⟨_, rfl⟩
              have hf := bnd_at hf ey52
              refine lv_iinc (v := y52) (lv' := [(4, .int y52), (6, .int y47), (5, .int y42), (0, .ref sb), (1, .ref (a 0)), (2, .ref (b 0)), (3, .ref oa)]) hx hb dL_law_1715 hl (k := 6) rfl (by rw [ey52]; rfl) (by decide) rfl (fun ls hl => ?_)
              refine lv_goto (tgt := 23) hx hb dL_law_1718 (by decide) ?_
              exact ih23 (C + 1) (Z + 6) q41.2.1 q46.2 q41.2.2 y52 _ _ (by omega) (by omega) ls hf hL hS (lv_sub hl [3, 4, 5, 6, 0] rfl)
            · rw [if_neg c51] at hf
              refine lv_iconst (v := 0) hx hb dL_law_462 (by decide) ?_
              cases hf
        · rw [if_neg c48] at hf
          refine lv_iconst (v := 0) hx hb dL_law_445 (by decide) ?_
          cases hf
      rw [if_neg c37] at hf
      by_cases c53 : y3 = 4
      · rw [if_pos c53] at hf
        refine lv_tableIn (off := 428) (tgt := 467) hx hb dL_law_39 (by rw [c53]; decide) (by rw [c53]; decide) (by rw [c53]; rfl) (by decide) ?_
        refine lv_aload_n hx hb dL_law_467 rfl (lv_at hl 1 rfl) ?_
        refine lv_aload_n hx hb dL_law_468 rfl (lv_at hl 0 rfl) ?_
        refine lv_iload hx hb dL_law_469 (lv_at hl 4 rfl) ?_
        refine lv_iconst (v := 1) hx hb dL_law_471 (by decide) ?_
        refine lv_iadd hx hb dL_law_472 ?_
        obtain ⟨v54, hv54, hf⟩ := ob_some hf
        refine rdSc hx hb hX hbl hbA hS hv54 dL_law_473 ?_
        refine lv_aload_n hx hb dL_law_474 rfl (lv_at hl 0 rfl) ?_
        refine lv_iload hx hb dL_law_475 (lv_at hl 4 rfl) ?_
        refine lv_iconst (v := 2) hx hb dL_law_477 (by decide) ?_
        refine lv_iadd hx hb dL_law_478 ?_
        obtain ⟨v55, hv55, hf⟩ := ob_some hf
        refine rdSc hx hb hX hbl hbA hS hv55 dL_law_479 ?_
        refine lv_aload_n hx hb dL_law_480 rfl (lv_at hl 0 rfl) ?_
        refine lv_iload hx hb dL_law_481 (lv_at hl 4 rfl) ?_
        refine lv_iconst (v := 3) hx hb dL_law_483 (by decide) ?_
        refine lv_iadd hx hb dL_law_484 ?_
        obtain ⟨v56, hv56, hf⟩ := ob_some hf
        refine rdSc hx hb hX hbl hbA hS hv56 dL_law_485 ?_
        refine lv_aload_n hx hb dL_law_486 rfl (lv_at hl 3 rfl) ?_
        obtain ⟨q57, hq57, hf⟩ := ob_some hf
        refine lw_wr (As := [.ref (a 0), .int v54, .int v55, .int v56, .ref oa]) (rest := []) ⟨hx, hb, hml, hown, hts⟩ (k_L_room l hfl dC dI cA cL a oa S o v54 v55 v56 _ hq57 hF.1 hF.2.2.1) gL_law_L_room rfl rfl rfl cd_L_room (Nat.le_of_ble_eq_true rfl) (Nat.le_of_ble_eq_true rfl) (preL hK hL hF hE hN hS) rfl hl.1 rfl (Nat.le_of_ble_eq_true rfl) (by show C + 2 ≤ 601024; omega) (by show Z + 12 ≤ 7293033; omega) dL_law_487 hL hF hS (fun H locs hL hS => ?_)
        refine lv_topi (fun y58 ey58 => ?_)
        have hf := bnd_at hf ey58
        refine lv_istore (lv' := [(5, .int y58), (0, .ref sb), (1, .ref (a 0)), (2, .ref (b 0)), (3, .ref oa), (4, .int x4)]) hx hb dL_law_490 hl (by decide) rfl (fun ls hl => ?_)
        refine lv_aload_n hx hb dL_law_492 rfl (lv_at hl 3 rfl) ?_
        refine lv_aload_n hx hb dL_law_493 rfl (lv_at hl 1 rfl) ?_
        refine lv_iload hx hb dL_law_494 (lv_at hl 5 rfl) ?_
        refine lv_iconst (v := 1) hx hb dL_law_496 (by decide) ?_
        refine lv_iadd hx hb dL_law_497 ?_
        obtain ⟨v59, hv59, hf⟩ := ob_some hf
        refine rdSc hx hb hX hbl hbA hS hv59 dL_law_498 ?_
        refine lv_aload_n hx hb dL_law_499 rfl (lv_at hl 1 rfl) ?_
        refine lv_iload hx hb dL_law_500 (lv_at hl 5 rfl) ?_
        refine lv_iconst (v := 2) hx hb dL_law_502 (by decide) ?_
        refine lv_iadd hx hb dL_law_503 ?_
        obtain ⟨v60, hv60, hf⟩ := ob_some hf
        refine rdSc hx hb hX hbl hbA hS hv60 dL_law_504 ?_
        refine lv_aload_n hx hb dL_law_505 rfl (lv_at hl 1 rfl) ?_
        refine lv_iload hx hb dL_law_506 (lv_at hl 5 rfl) ?_
        refine lv_iconst (v := 3) hx hb dL_law_508 (by decide) ?_
        refine lv_iadd hx hb dL_law_509 ?_
        obtain ⟨v61, hv61, hf⟩ := ob_some hf
        refine rdSc hx hb hX hbl hbA hS hv61 dL_law_510 ?_
        obtain ⟨q62, hq62, hf⟩ := ob_some hf
        refine lw_mo (As := [.int v59, .int v60, .int v61]) (rest := []) ⟨hx, hb, hml, hown, hts⟩ (k_X1_room l dC dI cA b T v59 v60 v61 _ hq62 hF.2.1) gL_law_X1_room rfl rfl rfl cd_X1_room (Nat.le_of_ble_eq_true rfl) (Nat.le_of_ble_eq_true rfl) (preM hK1 hL.2.1) rfl hl.1 rfl (Nat.le_of_ble_eq_true rfl) (by show (C + 2) ≤ 601024; omega) (by show (Z + 12) ≤ 7293033; omega) dL_law_511 hL hF hS (fun H locs hL hS => ?_)
        refine lv_topi (fun y63 ey63 => ?_)
        have hf := bnd_at hf ey63
        refine lv_istore (lv' := [(6, .int y63), (5, .int y58), (0, .ref sb), (1, .ref (a 0)), (2, .ref (b 0)), (3, .ref oa), (4, .int x4)]) hx hb dL_law_514 hl (by decide) rfl (fun ls hl => ?_)
        refine lv_aload_n hx hb dL_law_516 rfl (lv_at hl 4 rfl) ?_
        refine pu_V (As := []) (rest := []) ⟨hx, hb, hml, hown, hts⟩ (k_X1_thrown l dC dI cA b q62.2 _ rfl) gL_law_X1_thrown rfl rfl rfl cd_X1_thrown (Nat.le_of_ble_eq_true rfl) (Nat.le_of_ble_eq_true rfl) (preM hK1 hL.2.1) rfl hl.1 rfl (Nat.le_of_ble_eq_true rfl) (by show (C + 2) ≤ 601024; omega) (by show (Z + 12) ≤ 7293033; omega) dL_law_517 ?_
        refine lv_iload hx hb dL_law_520 (lv_at hl 1 rfl) ?_
        refine lv_icmp_eq (tgt := 527) hx hb dL_law_522 (by decide) (fun c64 => ?_) (fun c64 => ?_)
        · rw [if_pos c64] at hf
          refine lv_iload hx hb dL_law_527 (lv_at hl 1 rfl) ?_
          refine lv_if_ne (tgt := 544) hx hb dL_law_529 (by decide) (fun c65 => ?_) (fun c65 => ?_)
          · rw [if_neg c65] at hf
            refine lv_goto (tgt := 1715) hx hb dL_law_544 (by decide) ?_
            obtain ⟨y66, ey66⟩ : ∃ y : Int32, y = (x4 + 4) := ⟨_, rfl⟩
            have hf := bnd_at hf ey66
            refine lv_iinc (v := y66) (lv' := [(4, .int y66), (6, .int y63), (5, .int y58), (0, .ref sb), (1, .ref (a 0)), (2, .ref (b 0)), (3, .ref oa)]) hx hb dL_law_1715 hl (k := 6) rfl (by rw [ey66]; rfl) (by decide) rfl (fun ls hl => ?_)
            refine lv_goto (tgt := 23) hx hb dL_law_1718 (by decide) ?_
            exact ih23 (C + 2) (Z + 12) q57.2.1 q62.2 q57.2.2 y66 _ _ (by omega) (by omega) ls hf hL hS (lv_sub hl [3, 4, 5, 6, 0] rfl)
          · rw [if_pos c65] at hf
            refine lv_aload_n hx hb dL_law_532 rfl (lv_at hl 5 rfl) ?_
            refine lv_iconst (v := 0) hx hb dL_law_533 (by decide) ?_
            refine va_lald hx hb hK hL.2.2 0 1 rfl rfl in01 dL_law_534 ?_
            refine lv_iload hx hb dL_law_535 (lv_at hl 0 rfl) ?_
            refine lv_i2l (v := (y63.toInt64)) hx hb dL_law_537 rfl ?_
            refine W.lcmp hx hb dL_law_538 ?_
            refine lv_if_eq (tgt := 544) hx hb dL_law_539 (by decide) (fun c67 => ?_) (fun c67 => ?_)
            · rw [if_pos c67] at hf
              refine lv_goto (tgt := 1715) hx hb dL_law_544 (by decide) ?_
              obtain ⟨y68, ey68⟩ : ∃ y : Int32, y = (x4 + 4) := ⟨_, rfl⟩
              have hf := bnd_at hf ey68
              refine lv_iinc (v := y68) (lv' := [(4, .int y68), (6, .int y63), (5, .int y58), (0, .ref sb), (1, .ref (a 0)), (2, .ref (b 0)), (3, .ref oa)]) hx hb dL_law_1715 hl (k := 6) rfl (by rw [ey68]; rfl) (by decide) rfl (fun ls hl => ?_)
              refine lv_goto (tgt := 23) hx hb dL_law_1718 (by decide) ?_
              exact ih23 (C + 2) (Z + 12) q57.2.1 q62.2 q57.2.2 y68 _ _ (by omega) (by omega) ls hf hL hS (lv_sub hl [3, 4, 5, 6, 0] rfl)
            · rw [if_neg c67] at hf
              refine lv_iconst (v := 0) hx hb dL_law_542 (by decide) ?_
              cases hf
        · rw [if_neg c64] at hf
          refine lv_iconst (v := 0) hx hb dL_law_525 (by decide) ?_
          cases hf
      rw [if_neg c53] at hf
      by_cases c69 : y3 = 5
      · rw [if_pos c69] at hf
        refine lv_tableIn (off := 508) (tgt := 547) hx hb dL_law_39 (by rw [c69]; decide) (by rw [c69]; decide) (by rw [c69]; rfl) (by decide) ?_
        refine lv_aload_n hx hb dL_law_547 rfl (lv_at hl 1 rfl) ?_
        refine lv_aload_n hx hb dL_law_548 rfl (lv_at hl 0 rfl) ?_
        refine lv_iload hx hb dL_law_549 (lv_at hl 4 rfl) ?_
        refine lv_iconst (v := 1) hx hb dL_law_551 (by decide) ?_
        refine lv_iadd hx hb dL_law_552 ?_
        obtain ⟨v70, hv70, hf⟩ := ob_some hf
        refine rdSc hx hb hX hbl hbA hS hv70 dL_law_553 ?_
        refine lv_aload_n hx hb dL_law_554 rfl (lv_at hl 0 rfl) ?_
        refine lv_iload hx hb dL_law_555 (lv_at hl 4 rfl) ?_
        refine lv_iconst (v := 2) hx hb dL_law_557 (by decide) ?_
        refine lv_iadd hx hb dL_law_558 ?_
        obtain ⟨v71, hv71, hf⟩ := ob_some hf
        refine rdSc hx hb hX hbl hbA hS hv71 dL_law_559 ?_
        refine lv_aload_n hx hb dL_law_560 rfl (lv_at hl 3 rfl) ?_
        obtain ⟨q72, hq72, hf⟩ := ob_some hf
        refine lw_wr (As := [.ref (a 0), .int v70, .int v71, .ref oa]) (rest := []) ⟨hx, hb, hml, hown, hts⟩ (k_L_weigh l hfl dC dI cA cL a oa S o v70 v71 _ hq72 hF.1 hF.2.2.1) gL_law_L_weigh rfl rfl rfl cd_L_weigh (Nat.le_of_ble_eq_true rfl) (Nat.le_of_ble_eq_true rfl) (preL hK hL hF hE hN hS) rfl hl.1 rfl (Nat.le_of_ble_eq_true rfl) (by show C + 2 ≤ 601024; omega) (by show Z + 12 ≤ 7293033; omega) dL_law_561 hL hF hS (fun H locs hL hS => ?_)
        refine lv_topi (fun y73 ey73 => ?_)
        have hf := bnd_at hf ey73
        refine lv_istore (lv' := [(5, .int y73), (0, .ref sb), (1, .ref (a 0)), (2, .ref (b 0)), (3, .ref oa), (4, .int x4)]) hx hb dL_law_564 hl (by decide) rfl (fun ls hl => ?_)
        refine lv_aload_n hx hb dL_law_566 rfl (lv_at hl 3 rfl) ?_
        refine lv_aload_n hx hb dL_law_567 rfl (lv_at hl 1 rfl) ?_
        refine lv_iload hx hb dL_law_568 (lv_at hl 5 rfl) ?_
        refine lv_iconst (v := 1) hx hb dL_law_570 (by decide) ?_
        refine lv_iadd hx hb dL_law_571 ?_
        obtain ⟨v74, hv74, hf⟩ := ob_some hf
        refine rdSc hx hb hX hbl hbA hS hv74 dL_law_572 ?_
        refine lv_aload_n hx hb dL_law_573 rfl (lv_at hl 1 rfl) ?_
        refine lv_iload hx hb dL_law_574 (lv_at hl 5 rfl) ?_
        refine lv_iconst (v := 2) hx hb dL_law_576 (by decide) ?_
        refine lv_iadd hx hb dL_law_577 ?_
        obtain ⟨v75, hv75, hf⟩ := ob_some hf
        refine rdSc hx hb hX hbl hbA hS hv75 dL_law_578 ?_
        obtain ⟨q76, hq76, hf⟩ := ob_some hf
        refine lw_mo (As := [.int v74, .int v75]) (rest := []) ⟨hx, hb, hml, hown, hts⟩ (k_X1_weigh l dC dI cA b T v74 v75 _ hq76 hF.2.1) gL_law_X1_weigh rfl rfl rfl cd_X1_weigh (Nat.le_of_ble_eq_true rfl) (Nat.le_of_ble_eq_true rfl) (preM hK1 hL.2.1) rfl hl.1 rfl (Nat.le_of_ble_eq_true rfl) (by show (C + 2) ≤ 601024; omega) (by show (Z + 12) ≤ 7293033; omega) dL_law_579 hL hF hS (fun H locs hL hS => ?_)
        refine lv_topi (fun y77 ey77 => ?_)
        have hf := bnd_at hf ey77
        refine lv_istore (lv' := [(6, .int y77), (5, .int y73), (0, .ref sb), (1, .ref (a 0)), (2, .ref (b 0)), (3, .ref oa), (4, .int x4)]) hx hb dL_law_582 hl (by decide) rfl (fun ls hl => ?_)
        refine lv_aload_n hx hb dL_law_584 rfl (lv_at hl 4 rfl) ?_
        refine pu_V (As := []) (rest := []) ⟨hx, hb, hml, hown, hts⟩ (k_X1_thrown l dC dI cA b q76.2 _ rfl) gL_law_X1_thrown rfl rfl rfl cd_X1_thrown (Nat.le_of_ble_eq_true rfl) (Nat.le_of_ble_eq_true rfl) (preM hK1 hL.2.1) rfl hl.1 rfl (Nat.le_of_ble_eq_true rfl) (by show (C + 2) ≤ 601024; omega) (by show (Z + 12) ≤ 7293033; omega) dL_law_585 ?_
        refine lv_iload hx hb dL_law_588 (lv_at hl 1 rfl) ?_
        refine lv_icmp_eq (tgt := 595) hx hb dL_law_590 (by decide) (fun c78 => ?_) (fun c78 => ?_)
        · rw [if_pos c78] at hf
          refine lv_iload hx hb dL_law_595 (lv_at hl 1 rfl) ?_
          refine lv_if_ne (tgt := 612) hx hb dL_law_597 (by decide) (fun c79 => ?_) (fun c79 => ?_)
          · rw [if_neg c79] at hf
            refine lv_goto (tgt := 1715) hx hb dL_law_612 (by decide) ?_
            obtain ⟨y80, ey80⟩ : ∃ y : Int32, y = (x4 + 4) := ⟨_, rfl⟩
            have hf := bnd_at hf ey80
            refine lv_iinc (v := y80) (lv' := [(4, .int y80), (6, .int y77), (5, .int y73), (0, .ref sb), (1, .ref (a 0)), (2, .ref (b 0)), (3, .ref oa)]) hx hb dL_law_1715 hl (k := 6) rfl (by rw [ey80]; rfl) (by decide) rfl (fun ls hl => ?_)
            refine lv_goto (tgt := 23) hx hb dL_law_1718 (by decide) ?_
            exact ih23 (C + 2) (Z + 12) q72.2.1 q76.2 q72.2.2 y80 _ _ (by omega) (by omega) ls hf hL hS (lv_sub hl [3, 4, 5, 6, 0] rfl)
          · rw [if_pos c79] at hf
            refine lv_aload_n hx hb dL_law_600 rfl (lv_at hl 5 rfl) ?_
            refine lv_iconst (v := 0) hx hb dL_law_601 (by decide) ?_
            refine va_lald hx hb hK hL.2.2 0 1 rfl rfl in01 dL_law_602 ?_
            refine lv_iload hx hb dL_law_603 (lv_at hl 0 rfl) ?_
            refine lv_i2l (v := (y77.toInt64)) hx hb dL_law_605 rfl ?_
            refine W.lcmp hx hb dL_law_606 ?_
            refine lv_if_eq (tgt := 612) hx hb dL_law_607 (by decide) (fun c81 => ?_) (fun c81 => ?_)
            · rw [if_pos c81] at hf
              refine lv_goto (tgt := 1715) hx hb dL_law_612 (by decide) ?_
              obtain ⟨y82, ey82⟩ : ∃ y : Int32, y = (x4 + 4) := ⟨_, rfl⟩
              have hf := bnd_at hf ey82
              refine lv_iinc (v := y82) (lv' := [(4, .int y82), (6, .int y77), (5, .int y73), (0, .ref sb), (1, .ref (a 0)), (2, .ref (b 0)), (3, .ref oa)]) hx hb dL_law_1715 hl (k := 6) rfl (by rw [ey82]; rfl) (by decide) rfl (fun ls hl => ?_)
              refine lv_goto (tgt := 23) hx hb dL_law_1718 (by decide) ?_
              exact ih23 (C + 2) (Z + 12) q72.2.1 q76.2 q72.2.2 y82 _ _ (by omega) (by omega) ls hf hL hS (lv_sub hl [3, 4, 5, 6, 0] rfl)
            · rw [if_neg c81] at hf
              refine lv_iconst (v := 0) hx hb dL_law_610 (by decide) ?_
              cases hf
        · rw [if_neg c78] at hf
          refine lv_iconst (v := 0) hx hb dL_law_593 (by decide) ?_
          cases hf
      rw [if_neg c69] at hf
      by_cases c83 : y3 = 6
      · rw [if_pos c83] at hf
        refine lv_tableIn (off := 576) (tgt := 615) hx hb dL_law_39 (by rw [c83]; decide) (by rw [c83]; decide) (by rw [c83]; rfl) (by decide) ?_
        refine lv_aload_n hx hb dL_law_615 rfl (lv_at hl 1 rfl) ?_
        refine lv_aload_n hx hb dL_law_616 rfl (lv_at hl 0 rfl) ?_
        refine lv_iload hx hb dL_law_617 (lv_at hl 4 rfl) ?_
        refine lv_iconst (v := 1) hx hb dL_law_619 (by decide) ?_
        refine lv_iadd hx hb dL_law_620 ?_
        obtain ⟨v84, hv84, hf⟩ := ob_some hf
        refine rdSc hx hb hX hbl hbA hS hv84 dL_law_621 ?_
        refine lv_aload_n hx hb dL_law_622 rfl (lv_at hl 3 rfl) ?_
        obtain ⟨q85, hq85, hf⟩ := ob_some hf
        refine lw_wr (As := [.ref (a 0), .int v84, .ref oa]) (rest := []) ⟨hx, hb, hml, hown, hts⟩ (k_L_make l hfl dC dI cA cL a oa S o v84 _ hq85 hF.1 hF.2.2.1) gL_law_L_make rfl rfl rfl cd_L_make (Nat.le_of_ble_eq_true rfl) (Nat.le_of_ble_eq_true rfl) (preL hK hL hF hE hN hS) rfl hl.1 rfl (Nat.le_of_ble_eq_true rfl) (by show C + 2 ≤ 601024; omega) (by show Z + 12 ≤ 7293033; omega) dL_law_623 hL hF hS (fun H locs hL hS => ?_)
        refine lv_topi (fun y86 ey86 => ?_)
        have hf := bnd_at hf ey86
        refine lv_istore (lv' := [(5, .int y86), (0, .ref sb), (1, .ref (a 0)), (2, .ref (b 0)), (3, .ref oa), (4, .int x4)]) hx hb dL_law_626 hl (by decide) rfl (fun ls hl => ?_)
        refine lv_aload_n hx hb dL_law_628 rfl (lv_at hl 3 rfl) ?_
        refine lv_aload_n hx hb dL_law_629 rfl (lv_at hl 1 rfl) ?_
        refine lv_iload hx hb dL_law_630 (lv_at hl 5 rfl) ?_
        refine lv_iconst (v := 1) hx hb dL_law_632 (by decide) ?_
        refine lv_iadd hx hb dL_law_633 ?_
        obtain ⟨v87, hv87, hf⟩ := ob_some hf
        refine rdSc hx hb hX hbl hbA hS hv87 dL_law_634 ?_
        obtain ⟨q88, hq88, hf⟩ := ob_some hf
        refine lw_mo (As := [.int v87]) (rest := []) ⟨hx, hb, hml, hown, hts⟩ (k_X1_make l dC dI cA b T v87 _ hq88 hF.2.1) gL_law_X1_make rfl rfl rfl cd_X1_make (Nat.le_of_ble_eq_true rfl) (Nat.le_of_ble_eq_true rfl) (preM hK1 hL.2.1) rfl hl.1 rfl (Nat.le_of_ble_eq_true rfl) (by show (C + 2) ≤ 601024; omega) (by show (Z + 12) ≤ 7293033; omega) dL_law_635 hL hF hS (fun H locs hL hS => ?_)
        refine lv_topi (fun y89 ey89 => ?_)
        have hf := bnd_at hf ey89
        refine lv_istore (lv' := [(6, .int y89), (5, .int y86), (0, .ref sb), (1, .ref (a 0)), (2, .ref (b 0)), (3, .ref oa), (4, .int x4)]) hx hb dL_law_638 hl (by decide) rfl (fun ls hl => ?_)
        refine lv_aload_n hx hb dL_law_640 rfl (lv_at hl 4 rfl) ?_
        refine pu_V (As := []) (rest := []) ⟨hx, hb, hml, hown, hts⟩ (k_X1_thrown l dC dI cA b q88.2 _ rfl) gL_law_X1_thrown rfl rfl rfl cd_X1_thrown (Nat.le_of_ble_eq_true rfl) (Nat.le_of_ble_eq_true rfl) (preM hK1 hL.2.1) rfl hl.1 rfl (Nat.le_of_ble_eq_true rfl) (by show (C + 2) ≤ 601024; omega) (by show (Z + 12) ≤ 7293033; omega) dL_law_641 ?_
        refine lv_iload hx hb dL_law_644 (lv_at hl 1 rfl) ?_
        refine lv_icmp_eq (tgt := 651) hx hb dL_law_646 (by decide) (fun c90 => ?_) (fun c90 => ?_)
        · rw [if_pos c90] at hf
          refine lv_iload hx hb dL_law_651 (lv_at hl 1 rfl) ?_
          refine lv_if_ne (tgt := 668) hx hb dL_law_653 (by decide) (fun c91 => ?_) (fun c91 => ?_)
          · rw [if_neg c91] at hf
            refine lv_goto (tgt := 1715) hx hb dL_law_668 (by decide) ?_
            obtain ⟨y92, ey92⟩ : ∃ y : Int32, y = (x4 + 4) := ⟨_, rfl⟩
            have hf := bnd_at hf ey92
            refine lv_iinc (v := y92) (lv' := [(4, .int y92), (6, .int y89), (5, .int y86), (0, .ref sb), (1, .ref (a 0)), (2, .ref (b 0)), (3, .ref oa)]) hx hb dL_law_1715 hl (k := 6) rfl (by rw [ey92]; rfl) (by decide) rfl (fun ls hl => ?_)
            refine lv_goto (tgt := 23) hx hb dL_law_1718 (by decide) ?_
            exact ih23 (C + 2) (Z + 12) q85.2.1 q88.2 q85.2.2 y92 _ _ (by omega) (by omega) ls hf hL hS (lv_sub hl [3, 4, 5, 6, 0] rfl)
          · rw [if_pos c91] at hf
            refine lv_aload_n hx hb dL_law_656 rfl (lv_at hl 5 rfl) ?_
            refine lv_iconst (v := 0) hx hb dL_law_657 (by decide) ?_
            refine va_lald hx hb hK hL.2.2 0 1 rfl rfl in01 dL_law_658 ?_
            refine lv_iload hx hb dL_law_659 (lv_at hl 0 rfl) ?_
            refine lv_i2l (v := (y89.toInt64)) hx hb dL_law_661 rfl ?_
            refine W.lcmp hx hb dL_law_662 ?_
            refine lv_if_eq (tgt := 668) hx hb dL_law_663 (by decide) (fun c93 => ?_) (fun c93 => ?_)
            · rw [if_pos c93] at hf
              refine lv_goto (tgt := 1715) hx hb dL_law_668 (by decide) ?_
              obtain ⟨y94, ey94⟩ : ∃ y : Int32, y = (x4 + 4) := ⟨_, rfl⟩
              have hf := bnd_at hf ey94
              refine lv_iinc (v := y94) (lv' := [(4, .int y94), (6, .int y89), (5, .int y86), (0, .ref sb), (1, .ref (a 0)), (2, .ref (b 0)), (3, .ref oa)]) hx hb dL_law_1715 hl (k := 6) rfl (by rw [ey94]; rfl) (by decide) rfl (fun ls hl => ?_)
              refine lv_goto (tgt := 23) hx hb dL_law_1718 (by decide) ?_
              exact ih23 (C + 2) (Z + 12) q85.2.1 q88.2 q85.2.2 y94 _ _ (by omega) (by omega) ls hf hL hS (lv_sub hl [3, 4, 5, 6, 0] rfl)
            · rw [if_neg c93] at hf
              refine lv_iconst (v := 0) hx hb dL_law_666 (by decide) ?_
              cases hf
        · rw [if_neg c90] at hf
          refine lv_iconst (v := 0) hx hb dL_law_649 (by decide) ?_
          cases hf
      rw [if_neg c83] at hf
      by_cases c95 : y3 = 7
      · rw [if_pos c95] at hf
        refine lv_tableIn (off := 632) (tgt := 671) hx hb dL_law_39 (by rw [c95]; decide) (by rw [c95]; decide) (by rw [c95]; rfl) (by decide) ?_
        refine lv_aload_n hx hb dL_law_671 rfl (lv_at hl 1 rfl) ?_
        refine lv_aload_n hx hb dL_law_672 rfl (lv_at hl 0 rfl) ?_
        refine lv_iload hx hb dL_law_673 (lv_at hl 4 rfl) ?_
        refine lv_iconst (v := 1) hx hb dL_law_675 (by decide) ?_
        refine lv_iadd hx hb dL_law_676 ?_
        obtain ⟨v96, hv96, hf⟩ := ob_some hf
        refine rdSc hx hb hX hbl hbA hS hv96 dL_law_677 ?_
        refine lv_aload_n hx hb dL_law_678 rfl (lv_at hl 0 rfl) ?_
        refine lv_iload hx hb dL_law_679 (lv_at hl 4 rfl) ?_
        refine lv_iconst (v := 2) hx hb dL_law_681 (by decide) ?_
        refine lv_iadd hx hb dL_law_682 ?_
        obtain ⟨v97, hv97, hf⟩ := ob_some hf
        refine rdSc hx hb hX hbl hbA hS hv97 dL_law_683 ?_
        refine lv_aload_n hx hb dL_law_684 rfl (lv_at hl 3 rfl) ?_
        obtain ⟨q98, hq98, hf⟩ := ob_some hf
        refine lw_wr (As := [.ref (a 0), .int v96, .int v97, .ref oa]) (rest := []) ⟨hx, hb, hml, hown, hts⟩ (k_L_sum l hfl dC dI cA cL a oa S o v96 v97 _ hq98 hF.1 hF.2.2.1) gL_law_L_sum rfl rfl rfl cd_L_sum (Nat.le_of_ble_eq_true rfl) (Nat.le_of_ble_eq_true rfl) (preL hK hL hF hE hN hS) rfl hl.1 rfl (Nat.le_of_ble_eq_true rfl) (by show C + 2 ≤ 601024; omega) (by show Z + 12 ≤ 7293033; omega) dL_law_685 hL hF hS (fun H locs hL hS => ?_)
        refine lv_topi (fun y99 ey99 => ?_)
        have hf := bnd_at hf ey99
        refine lv_istore (lv' := [(5, .int y99), (0, .ref sb), (1, .ref (a 0)), (2, .ref (b 0)), (3, .ref oa), (4, .int x4)]) hx hb dL_law_688 hl (by decide) rfl (fun ls hl => ?_)
        refine lv_aload_n hx hb dL_law_690 rfl (lv_at hl 3 rfl) ?_
        refine lv_aload_n hx hb dL_law_691 rfl (lv_at hl 1 rfl) ?_
        refine lv_iload hx hb dL_law_692 (lv_at hl 5 rfl) ?_
        refine lv_iconst (v := 1) hx hb dL_law_694 (by decide) ?_
        refine lv_iadd hx hb dL_law_695 ?_
        obtain ⟨v100, hv100, hf⟩ := ob_some hf
        refine rdSc hx hb hX hbl hbA hS hv100 dL_law_696 ?_
        refine lv_aload_n hx hb dL_law_697 rfl (lv_at hl 1 rfl) ?_
        refine lv_iload hx hb dL_law_698 (lv_at hl 5 rfl) ?_
        refine lv_iconst (v := 2) hx hb dL_law_700 (by decide) ?_
        refine lv_iadd hx hb dL_law_701 ?_
        obtain ⟨v101, hv101, hf⟩ := ob_some hf
        refine rdSc hx hb hX hbl hbA hS hv101 dL_law_702 ?_
        obtain ⟨q102, hq102, hf⟩ := ob_some hf
        refine lw_mo (As := [.int v100, .int v101]) (rest := []) ⟨hx, hb, hml, hown, hts⟩ (k_X1_sum l dC dI cA b T v100 v101 _ hq102 hF.2.1) gL_law_X1_sum rfl rfl rfl cd_X1_sum (Nat.le_of_ble_eq_true rfl) (Nat.le_of_ble_eq_true rfl) (preM hK1 hL.2.1) rfl hl.1 rfl (Nat.le_of_ble_eq_true rfl) (by show (C + 2) ≤ 601024; omega) (by show (Z + 12) ≤ 7293033; omega) dL_law_703 hL hF hS (fun H locs hL hS => ?_)
        refine lv_topi (fun y103 ey103 => ?_)
        have hf := bnd_at hf ey103
        refine lv_istore (lv' := [(6, .int y103), (5, .int y99), (0, .ref sb), (1, .ref (a 0)), (2, .ref (b 0)), (3, .ref oa), (4, .int x4)]) hx hb dL_law_706 hl (by decide) rfl (fun ls hl => ?_)
        refine lv_aload_n hx hb dL_law_708 rfl (lv_at hl 4 rfl) ?_
        refine pu_V (As := []) (rest := []) ⟨hx, hb, hml, hown, hts⟩ (k_X1_thrown l dC dI cA b q102.2 _ rfl) gL_law_X1_thrown rfl rfl rfl cd_X1_thrown (Nat.le_of_ble_eq_true rfl) (Nat.le_of_ble_eq_true rfl) (preM hK1 hL.2.1) rfl hl.1 rfl (Nat.le_of_ble_eq_true rfl) (by show (C + 2) ≤ 601024; omega) (by show (Z + 12) ≤ 7293033; omega) dL_law_709 ?_
        refine lv_iload hx hb dL_law_712 (lv_at hl 1 rfl) ?_
        refine lv_icmp_eq (tgt := 719) hx hb dL_law_714 (by decide) (fun c104 => ?_) (fun c104 => ?_)
        · rw [if_pos c104] at hf
          refine lv_iload hx hb dL_law_719 (lv_at hl 1 rfl) ?_
          refine lv_if_ne (tgt := 736) hx hb dL_law_721 (by decide) (fun c105 => ?_) (fun c105 => ?_)
          · rw [if_neg c105] at hf
            refine lv_goto (tgt := 1715) hx hb dL_law_736 (by decide) ?_
            obtain ⟨y106, ey106⟩ : ∃ y : Int32, y = (x4 + 4) := ⟨_, rfl⟩
            have hf := bnd_at hf ey106
            refine lv_iinc (v := y106) (lv' := [(4, .int y106), (6, .int y103), (5, .int y99), (0, .ref sb), (1, .ref (a 0)), (2, .ref (b 0)), (3, .ref oa)]) hx hb dL_law_1715 hl (k := 6) rfl (by rw [ey106]; rfl) (by decide) rfl (fun ls hl => ?_)
            refine lv_goto (tgt := 23) hx hb dL_law_1718 (by decide) ?_
            exact ih23 (C + 2) (Z + 12) q98.2.1 q102.2 q98.2.2 y106 _ _ (by omega) (by omega) ls hf hL hS (lv_sub hl [3, 4, 5, 6, 0] rfl)
          · rw [if_pos c105] at hf
            refine lv_aload_n hx hb dL_law_724 rfl (lv_at hl 5 rfl) ?_
            refine lv_iconst (v := 0) hx hb dL_law_725 (by decide) ?_
            refine va_lald hx hb hK hL.2.2 0 1 rfl rfl in01 dL_law_726 ?_
            refine lv_iload hx hb dL_law_727 (lv_at hl 0 rfl) ?_
            refine lv_i2l (v := (y103.toInt64)) hx hb dL_law_729 rfl ?_
            refine W.lcmp hx hb dL_law_730 ?_
            refine lv_if_eq (tgt := 736) hx hb dL_law_731 (by decide) (fun c107 => ?_) (fun c107 => ?_)
            · rw [if_pos c107] at hf
              refine lv_goto (tgt := 1715) hx hb dL_law_736 (by decide) ?_
              obtain ⟨y108, ey108⟩ : ∃ y : Int32, y = (x4 + 4) := ⟨_, rfl⟩
              have hf := bnd_at hf ey108
              refine lv_iinc (v := y108) (lv' := [(4, .int y108), (6, .int y103), (5, .int y99), (0, .ref sb), (1, .ref (a 0)), (2, .ref (b 0)), (3, .ref oa)]) hx hb dL_law_1715 hl (k := 6) rfl (by rw [ey108]; rfl) (by decide) rfl (fun ls hl => ?_)
              refine lv_goto (tgt := 23) hx hb dL_law_1718 (by decide) ?_
              exact ih23 (C + 2) (Z + 12) q98.2.1 q102.2 q98.2.2 y108 _ _ (by omega) (by omega) ls hf hL hS (lv_sub hl [3, 4, 5, 6, 0] rfl)
            · rw [if_neg c107] at hf
              refine lv_iconst (v := 0) hx hb dL_law_734 (by decide) ?_
              cases hf
        · rw [if_neg c104] at hf
          refine lv_iconst (v := 0) hx hb dL_law_717 (by decide) ?_
          cases hf
      rw [if_neg c95] at hf
      by_cases c109 : y3 = 8
      · rw [if_pos c109] at hf
        refine lv_tableIn (off := 700) (tgt := 739) hx hb dL_law_39 (by rw [c109]; decide) (by rw [c109]; decide) (by rw [c109]; rfl) (by decide) ?_
        refine lv_aload_n hx hb dL_law_739 rfl (lv_at hl 1 rfl) ?_
        refine lv_aload_n hx hb dL_law_740 rfl (lv_at hl 0 rfl) ?_
        refine lv_iload hx hb dL_law_741 (lv_at hl 4 rfl) ?_
        refine lv_iconst (v := 1) hx hb dL_law_743 (by decide) ?_
        refine lv_iadd hx hb dL_law_744 ?_
        obtain ⟨v110, hv110, hf⟩ := ob_some hf
        refine rdSc hx hb hX hbl hbA hS hv110 dL_law_745 ?_
        refine lv_aload_n hx hb dL_law_746 rfl (lv_at hl 0 rfl) ?_
        refine lv_iload hx hb dL_law_747 (lv_at hl 4 rfl) ?_
        refine lv_iconst (v := 2) hx hb dL_law_749 (by decide) ?_
        refine lv_iadd hx hb dL_law_750 ?_
        obtain ⟨v111, hv111, hf⟩ := ob_some hf
        refine rdSc hx hb hX hbl hbA hS hv111 dL_law_751 ?_
        refine lv_aload_n hx hb dL_law_752 rfl (lv_at hl 3 rfl) ?_
        obtain ⟨q112, hq112, hf⟩ := ob_some hf
        refine lw_wr (As := [.ref (a 0), .int v110, .int v111, .ref oa]) (rest := []) ⟨hx, hb, hml, hown, hts⟩ (k_L_contract l hfl dC dI cA cL a oa S o v110 v111 _ hq112 hF.1 hF.2.2.1) gL_law_L_contract rfl rfl rfl cd_L_contract (Nat.le_of_ble_eq_true rfl) (Nat.le_of_ble_eq_true rfl) (preL hK hL hF hE hN hS) rfl hl.1 rfl (Nat.le_of_ble_eq_true rfl) (by show C + 3 ≤ 601024; omega) (by show Z + 18 ≤ 7293033; omega) dL_law_753 hL hF hS (fun H locs hL hS => ?_)
        refine lv_topi (fun y113 ey113 => ?_)
        have hf := bnd_at hf ey113
        refine lv_istore (lv' := [(5, .int y113), (0, .ref sb), (1, .ref (a 0)), (2, .ref (b 0)), (3, .ref oa), (4, .int x4)]) hx hb dL_law_756 hl (by decide) rfl (fun ls hl => ?_)
        refine lv_aload_n hx hb dL_law_758 rfl (lv_at hl 3 rfl) ?_
        refine lv_aload_n hx hb dL_law_759 rfl (lv_at hl 1 rfl) ?_
        refine lv_iload hx hb dL_law_760 (lv_at hl 5 rfl) ?_
        refine lv_iconst (v := 1) hx hb dL_law_762 (by decide) ?_
        refine lv_iadd hx hb dL_law_763 ?_
        obtain ⟨v114, hv114, hf⟩ := ob_some hf
        refine rdSc hx hb hX hbl hbA hS hv114 dL_law_764 ?_
        refine lv_aload_n hx hb dL_law_765 rfl (lv_at hl 1 rfl) ?_
        refine lv_iload hx hb dL_law_766 (lv_at hl 5 rfl) ?_
        refine lv_iconst (v := 2) hx hb dL_law_768 (by decide) ?_
        refine lv_iadd hx hb dL_law_769 ?_
        obtain ⟨v115, hv115, hf⟩ := ob_some hf
        refine rdSc hx hb hX hbl hbA hS hv115 dL_law_770 ?_
        obtain ⟨q116, hq116, hf⟩ := ob_some hf
        refine lw_mo (As := [.int v114, .int v115]) (rest := []) ⟨hx, hb, hml, hown, hts⟩ (k_X1_contract l dC dI cA b T v114 v115 _ hq116 hF.2.1) gL_law_X1_contract rfl rfl rfl cd_X1_contract (Nat.le_of_ble_eq_true rfl) (Nat.le_of_ble_eq_true rfl) (preM hK1 hL.2.1) rfl hl.1 rfl (Nat.le_of_ble_eq_true rfl) (by show (C + 3) ≤ 601024; omega) (by show (Z + 18) ≤ 7293033; omega) dL_law_771 hL hF hS (fun H locs hL hS => ?_)
        refine lv_topi (fun y117 ey117 => ?_)
        have hf := bnd_at hf ey117
        refine lv_istore (lv' := [(6, .int y117), (5, .int y113), (0, .ref sb), (1, .ref (a 0)), (2, .ref (b 0)), (3, .ref oa), (4, .int x4)]) hx hb dL_law_774 hl (by decide) rfl (fun ls hl => ?_)
        refine lv_aload_n hx hb dL_law_776 rfl (lv_at hl 4 rfl) ?_
        refine pu_V (As := []) (rest := []) ⟨hx, hb, hml, hown, hts⟩ (k_X1_thrown l dC dI cA b q116.2 _ rfl) gL_law_X1_thrown rfl rfl rfl cd_X1_thrown (Nat.le_of_ble_eq_true rfl) (Nat.le_of_ble_eq_true rfl) (preM hK1 hL.2.1) rfl hl.1 rfl (Nat.le_of_ble_eq_true rfl) (by show (C + 3) ≤ 601024; omega) (by show (Z + 18) ≤ 7293033; omega) dL_law_777 ?_
        refine lv_iload hx hb dL_law_780 (lv_at hl 1 rfl) ?_
        refine lv_icmp_eq (tgt := 787) hx hb dL_law_782 (by decide) (fun c118 => ?_) (fun c118 => ?_)
        · rw [if_pos c118] at hf
          refine lv_iload hx hb dL_law_787 (lv_at hl 1 rfl) ?_
          refine lv_if_ne (tgt := 804) hx hb dL_law_789 (by decide) (fun c119 => ?_) (fun c119 => ?_)
          · rw [if_neg c119] at hf
            refine lv_goto (tgt := 1715) hx hb dL_law_804 (by decide) ?_
            obtain ⟨y120, ey120⟩ : ∃ y : Int32, y = (x4 + 4) := ⟨_, rfl⟩
            have hf := bnd_at hf ey120
            refine lv_iinc (v := y120) (lv' := [(4, .int y120), (6, .int y117), (5, .int y113), (0, .ref sb), (1, .ref (a 0)), (2, .ref (b 0)), (3, .ref oa)]) hx hb dL_law_1715 hl (k := 6) rfl (by rw [ey120]; rfl) (by decide) rfl (fun ls hl => ?_)
            refine lv_goto (tgt := 23) hx hb dL_law_1718 (by decide) ?_
            exact ih23 (C + 3) (Z + 18) q112.2.1 q116.2 q112.2.2 y120 _ _ (by omega) (by omega) ls hf hL hS (lv_sub hl [3, 4, 5, 6, 0] rfl)
          · rw [if_pos c119] at hf
            refine lv_aload_n hx hb dL_law_792 rfl (lv_at hl 5 rfl) ?_
            refine lv_iconst (v := 0) hx hb dL_law_793 (by decide) ?_
            refine va_lald hx hb hK hL.2.2 0 1 rfl rfl in01 dL_law_794 ?_
            refine lv_iload hx hb dL_law_795 (lv_at hl 0 rfl) ?_
            refine lv_i2l (v := (y117.toInt64)) hx hb dL_law_797 rfl ?_
            refine W.lcmp hx hb dL_law_798 ?_
            refine lv_if_eq (tgt := 804) hx hb dL_law_799 (by decide) (fun c121 => ?_) (fun c121 => ?_)
            · rw [if_pos c121] at hf
              refine lv_goto (tgt := 1715) hx hb dL_law_804 (by decide) ?_
              obtain ⟨y122, ey122⟩ : ∃ y : Int32, y = (x4 + 4) := ⟨_, rfl⟩
              have hf := bnd_at hf ey122
              refine lv_iinc (v := y122) (lv' := [(4, .int y122), (6, .int y117), (5, .int y113), (0, .ref sb), (1, .ref (a 0)), (2, .ref (b 0)), (3, .ref oa)]) hx hb dL_law_1715 hl (k := 6) rfl (by rw [ey122]; rfl) (by decide) rfl (fun ls hl => ?_)
              refine lv_goto (tgt := 23) hx hb dL_law_1718 (by decide) ?_
              exact ih23 (C + 3) (Z + 18) q112.2.1 q116.2 q112.2.2 y122 _ _ (by omega) (by omega) ls hf hL hS (lv_sub hl [3, 4, 5, 6, 0] rfl)
            · rw [if_neg c121] at hf
              refine lv_iconst (v := 0) hx hb dL_law_802 (by decide) ?_
              cases hf
        · rw [if_neg c118] at hf
          refine lv_iconst (v := 0) hx hb dL_law_785 (by decide) ?_
          cases hf
      rw [if_neg c109] at hf
      by_cases c123 : y3 = 9
      · rw [if_pos c123] at hf
        refine lv_tableIn (off := 768) (tgt := 807) hx hb dL_law_39 (by rw [c123]; decide) (by rw [c123]; decide) (by rw [c123]; rfl) (by decide) ?_
        refine lv_aload_n hx hb dL_law_807 rfl (lv_at hl 1 rfl) ?_
        refine lv_aload_n hx hb dL_law_808 rfl (lv_at hl 0 rfl) ?_
        refine lv_iload hx hb dL_law_809 (lv_at hl 4 rfl) ?_
        refine lv_iconst (v := 1) hx hb dL_law_811 (by decide) ?_
        refine lv_iadd hx hb dL_law_812 ?_
        obtain ⟨v124, hv124, hf⟩ := ob_some hf
        refine rdSc hx hb hX hbl hbA hS hv124 dL_law_813 ?_
        refine lv_aload_n hx hb dL_law_814 rfl (lv_at hl 0 rfl) ?_
        refine lv_iload hx hb dL_law_815 (lv_at hl 4 rfl) ?_
        refine lv_iconst (v := 2) hx hb dL_law_817 (by decide) ?_
        refine lv_iadd hx hb dL_law_818 ?_
        obtain ⟨v125, hv125, hf⟩ := ob_some hf
        refine rdSc hx hb hX hbl hbA hS hv125 dL_law_819 ?_
        refine lv_aload_n hx hb dL_law_820 rfl (lv_at hl 3 rfl) ?_
        obtain ⟨q126, hq126, hf⟩ := ob_some hf
        refine lw_wr (As := [.ref (a 0), .int v124, .int v125, .ref oa]) (rest := []) ⟨hx, hb, hml, hown, hts⟩ (k_L_cap l hfl dC dI cA cL a oa S o v124 v125 _ hq126 hF.1 hF.2.2.1) gL_law_L_cap rfl rfl rfl cd_L_cap (Nat.le_of_ble_eq_true rfl) (Nat.le_of_ble_eq_true rfl) (preL hK hL hF hE hN hS) rfl hl.1 rfl (Nat.le_of_ble_eq_true rfl) (by show C + 3 ≤ 601024; omega) (by show Z + 18 ≤ 7293033; omega) dL_law_821 hL hF hS (fun H locs hL hS => ?_)
        refine lv_topi (fun y127 ey127 => ?_)
        have hf := bnd_at hf ey127
        refine lv_istore (lv' := [(5, .int y127), (0, .ref sb), (1, .ref (a 0)), (2, .ref (b 0)), (3, .ref oa), (4, .int x4)]) hx hb dL_law_824 hl (by decide) rfl (fun ls hl => ?_)
        refine lv_aload_n hx hb dL_law_826 rfl (lv_at hl 3 rfl) ?_
        refine lv_aload_n hx hb dL_law_827 rfl (lv_at hl 1 rfl) ?_
        refine lv_iload hx hb dL_law_828 (lv_at hl 5 rfl) ?_
        refine lv_iconst (v := 1) hx hb dL_law_830 (by decide) ?_
        refine lv_iadd hx hb dL_law_831 ?_
        obtain ⟨v128, hv128, hf⟩ := ob_some hf
        refine rdSc hx hb hX hbl hbA hS hv128 dL_law_832 ?_
        refine lv_aload_n hx hb dL_law_833 rfl (lv_at hl 1 rfl) ?_
        refine lv_iload hx hb dL_law_834 (lv_at hl 5 rfl) ?_
        refine lv_iconst (v := 2) hx hb dL_law_836 (by decide) ?_
        refine lv_iadd hx hb dL_law_837 ?_
        obtain ⟨v129, hv129, hf⟩ := ob_some hf
        refine rdSc hx hb hX hbl hbA hS hv129 dL_law_838 ?_
        obtain ⟨q130, hq130, hf⟩ := ob_some hf
        refine lw_mo (As := [.int v128, .int v129]) (rest := []) ⟨hx, hb, hml, hown, hts⟩ (k_X1_cap l dC dI cA b T v128 v129 _ hq130 hF.2.1) gL_law_X1_cap rfl rfl rfl cd_X1_cap (Nat.le_of_ble_eq_true rfl) (Nat.le_of_ble_eq_true rfl) (preM hK1 hL.2.1) rfl hl.1 rfl (Nat.le_of_ble_eq_true rfl) (by show (C + 3) ≤ 601024; omega) (by show (Z + 18) ≤ 7293033; omega) dL_law_839 hL hF hS (fun H locs hL hS => ?_)
        refine lv_topi (fun y131 ey131 => ?_)
        have hf := bnd_at hf ey131
        refine lv_istore (lv' := [(6, .int y131), (5, .int y127), (0, .ref sb), (1, .ref (a 0)), (2, .ref (b 0)), (3, .ref oa), (4, .int x4)]) hx hb dL_law_842 hl (by decide) rfl (fun ls hl => ?_)
        refine lv_aload_n hx hb dL_law_844 rfl (lv_at hl 4 rfl) ?_
        refine pu_V (As := []) (rest := []) ⟨hx, hb, hml, hown, hts⟩ (k_X1_thrown l dC dI cA b q130.2 _ rfl) gL_law_X1_thrown rfl rfl rfl cd_X1_thrown (Nat.le_of_ble_eq_true rfl) (Nat.le_of_ble_eq_true rfl) (preM hK1 hL.2.1) rfl hl.1 rfl (Nat.le_of_ble_eq_true rfl) (by show (C + 3) ≤ 601024; omega) (by show (Z + 18) ≤ 7293033; omega) dL_law_845 ?_
        refine lv_iload hx hb dL_law_848 (lv_at hl 1 rfl) ?_
        refine lv_icmp_eq (tgt := 855) hx hb dL_law_850 (by decide) (fun c132 => ?_) (fun c132 => ?_)
        · rw [if_pos c132] at hf
          refine lv_iload hx hb dL_law_855 (lv_at hl 1 rfl) ?_
          refine lv_if_ne (tgt := 872) hx hb dL_law_857 (by decide) (fun c133 => ?_) (fun c133 => ?_)
          · rw [if_neg c133] at hf
            refine lv_goto (tgt := 1715) hx hb dL_law_872 (by decide) ?_
            obtain ⟨y134, ey134⟩ : ∃ y : Int32, y = (x4 + 4) := ⟨_, rfl⟩
            have hf := bnd_at hf ey134
            refine lv_iinc (v := y134) (lv' := [(4, .int y134), (6, .int y131), (5, .int y127), (0, .ref sb), (1, .ref (a 0)), (2, .ref (b 0)), (3, .ref oa)]) hx hb dL_law_1715 hl (k := 6) rfl (by rw [ey134]; rfl) (by decide) rfl (fun ls hl => ?_)
            refine lv_goto (tgt := 23) hx hb dL_law_1718 (by decide) ?_
            exact ih23 (C + 3) (Z + 18) q126.2.1 q130.2 q126.2.2 y134 _ _ (by omega) (by omega) ls hf hL hS (lv_sub hl [3, 4, 5, 6, 0] rfl)
          · rw [if_pos c133] at hf
            refine lv_aload_n hx hb dL_law_860 rfl (lv_at hl 5 rfl) ?_
            refine lv_iconst (v := 0) hx hb dL_law_861 (by decide) ?_
            refine va_lald hx hb hK hL.2.2 0 1 rfl rfl in01 dL_law_862 ?_
            refine lv_iload hx hb dL_law_863 (lv_at hl 0 rfl) ?_
            refine lv_i2l (v := (y131.toInt64)) hx hb dL_law_865 rfl ?_
            refine W.lcmp hx hb dL_law_866 ?_
            refine lv_if_eq (tgt := 872) hx hb dL_law_867 (by decide) (fun c135 => ?_) (fun c135 => ?_)
            · rw [if_pos c135] at hf
              refine lv_goto (tgt := 1715) hx hb dL_law_872 (by decide) ?_
              obtain ⟨y136, ey136⟩ : ∃ y : Int32, y = (x4 + 4) := ⟨_, rfl⟩
              have hf := bnd_at hf ey136
              refine lv_iinc (v := y136) (lv' := [(4, .int y136), (6, .int y131), (5, .int y127), (0, .ref sb), (1, .ref (a 0)), (2, .ref (b 0)), (3, .ref oa)]) hx hb dL_law_1715 hl (k := 6) rfl (by rw [ey136]; rfl) (by decide) rfl (fun ls hl => ?_)
              refine lv_goto (tgt := 23) hx hb dL_law_1718 (by decide) ?_
              exact ih23 (C + 3) (Z + 18) q126.2.1 q130.2 q126.2.2 y136 _ _ (by omega) (by omega) ls hf hL hS (lv_sub hl [3, 4, 5, 6, 0] rfl)
            · rw [if_neg c135] at hf
              refine lv_iconst (v := 0) hx hb dL_law_870 (by decide) ?_
              cases hf
        · rw [if_neg c132] at hf
          refine lv_iconst (v := 0) hx hb dL_law_853 (by decide) ?_
          cases hf
      rw [if_neg c123] at hf
      by_cases c137 : y3 = 10
      · rw [if_pos c137] at hf
        refine lv_tableIn (off := 836) (tgt := 875) hx hb dL_law_39 (by rw [c137]; decide) (by rw [c137]; decide) (by rw [c137]; rfl) (by decide) ?_
        refine lv_aload_n hx hb dL_law_875 rfl (lv_at hl 1 rfl) ?_
        refine lv_aload_n hx hb dL_law_876 rfl (lv_at hl 0 rfl) ?_
        refine lv_iload hx hb dL_law_877 (lv_at hl 4 rfl) ?_
        refine lv_iconst (v := 1) hx hb dL_law_879 (by decide) ?_
        refine lv_iadd hx hb dL_law_880 ?_
        obtain ⟨v138, hv138, hf⟩ := ob_some hf
        refine rdSc hx hb hX hbl hbA hS hv138 dL_law_881 ?_
        refine lv_aload_n hx hb dL_law_882 rfl (lv_at hl 0 rfl) ?_
        refine lv_iload hx hb dL_law_883 (lv_at hl 4 rfl) ?_
        refine lv_iconst (v := 2) hx hb dL_law_885 (by decide) ?_
        refine lv_iadd hx hb dL_law_886 ?_
        obtain ⟨v139, hv139, hf⟩ := ob_some hf
        refine rdSc hx hb hX hbl hbA hS hv139 dL_law_887 ?_
        refine lv_aload_n hx hb dL_law_888 rfl (lv_at hl 3 rfl) ?_
        obtain ⟨q140, hq140, hf⟩ := ob_some hf
        refine lw_wr (As := [.ref (a 0), .int v138, .int v139, .ref oa]) (rest := []) ⟨hx, hb, hml, hown, hts⟩ (k_L_value l hfl dC dI cA cL a oa S o v138 v139 _ hq140 hF.1 hF.2.2.1) gL_law_L_value rfl rfl rfl cd_L_value (Nat.le_of_ble_eq_true rfl) (Nat.le_of_ble_eq_true rfl) (preL hK hL hF hE hN hS) rfl hl.1 rfl (Nat.le_of_ble_eq_true rfl) (by show C + 2 ≤ 601024; omega) (by show Z + 12 ≤ 7293033; omega) dL_law_889 hL hF hS (fun H locs hL hS => ?_)
        refine lv_topi (fun y141 ey141 => ?_)
        have hf := bnd_at hf ey141
        refine lv_istore (lv' := [(5, .int y141), (0, .ref sb), (1, .ref (a 0)), (2, .ref (b 0)), (3, .ref oa), (4, .int x4)]) hx hb dL_law_892 hl (by decide) rfl (fun ls hl => ?_)
        refine lv_aload_n hx hb dL_law_894 rfl (lv_at hl 3 rfl) ?_
        refine lv_aload_n hx hb dL_law_895 rfl (lv_at hl 1 rfl) ?_
        refine lv_iload hx hb dL_law_896 (lv_at hl 5 rfl) ?_
        refine lv_iconst (v := 1) hx hb dL_law_898 (by decide) ?_
        refine lv_iadd hx hb dL_law_899 ?_
        obtain ⟨v142, hv142, hf⟩ := ob_some hf
        refine rdSc hx hb hX hbl hbA hS hv142 dL_law_900 ?_
        refine lv_aload_n hx hb dL_law_901 rfl (lv_at hl 1 rfl) ?_
        refine lv_iload hx hb dL_law_902 (lv_at hl 5 rfl) ?_
        refine lv_iconst (v := 2) hx hb dL_law_904 (by decide) ?_
        refine lv_iadd hx hb dL_law_905 ?_
        obtain ⟨v143, hv143, hf⟩ := ob_some hf
        refine rdSc hx hb hX hbl hbA hS hv143 dL_law_906 ?_
        obtain ⟨q144, hq144, hf⟩ := ob_some hf
        refine lw_mo (As := [.int v142, .int v143]) (rest := []) ⟨hx, hb, hml, hown, hts⟩ (k_X1_value l dC dI cA b T v142 v143 _ hq144 hF.2.1) gL_law_X1_value rfl rfl rfl cd_X1_value (Nat.le_of_ble_eq_true rfl) (Nat.le_of_ble_eq_true rfl) (preM hK1 hL.2.1) rfl hl.1 rfl (Nat.le_of_ble_eq_true rfl) (by show (C + 2) ≤ 601024; omega) (by show (Z + 12) ≤ 7293033; omega) dL_law_907 hL hF hS (fun H locs hL hS => ?_)
        refine lv_topi (fun y145 ey145 => ?_)
        have hf := bnd_at hf ey145
        refine lv_istore (lv' := [(6, .int y145), (5, .int y141), (0, .ref sb), (1, .ref (a 0)), (2, .ref (b 0)), (3, .ref oa), (4, .int x4)]) hx hb dL_law_910 hl (by decide) rfl (fun ls hl => ?_)
        refine lv_aload_n hx hb dL_law_912 rfl (lv_at hl 4 rfl) ?_
        refine pu_V (As := []) (rest := []) ⟨hx, hb, hml, hown, hts⟩ (k_X1_thrown l dC dI cA b q144.2 _ rfl) gL_law_X1_thrown rfl rfl rfl cd_X1_thrown (Nat.le_of_ble_eq_true rfl) (Nat.le_of_ble_eq_true rfl) (preM hK1 hL.2.1) rfl hl.1 rfl (Nat.le_of_ble_eq_true rfl) (by show (C + 2) ≤ 601024; omega) (by show (Z + 12) ≤ 7293033; omega) dL_law_913 ?_
        refine lv_iload hx hb dL_law_916 (lv_at hl 1 rfl) ?_
        refine lv_icmp_eq (tgt := 923) hx hb dL_law_918 (by decide) (fun c146 => ?_) (fun c146 => ?_)
        · rw [if_pos c146] at hf
          refine lv_iload hx hb dL_law_923 (lv_at hl 1 rfl) ?_
          refine lv_if_ne (tgt := 940) hx hb dL_law_925 (by decide) (fun c147 => ?_) (fun c147 => ?_)
          · rw [if_neg c147] at hf
            refine lv_goto (tgt := 1715) hx hb dL_law_940 (by decide) ?_
            obtain ⟨y148, ey148⟩ : ∃ y : Int32, y = (x4 + 4) := ⟨_, rfl⟩
            have hf := bnd_at hf ey148
            refine lv_iinc (v := y148) (lv' := [(4, .int y148), (6, .int y145), (5, .int y141), (0, .ref sb), (1, .ref (a 0)), (2, .ref (b 0)), (3, .ref oa)]) hx hb dL_law_1715 hl (k := 6) rfl (by rw [ey148]; rfl) (by decide) rfl (fun ls hl => ?_)
            refine lv_goto (tgt := 23) hx hb dL_law_1718 (by decide) ?_
            exact ih23 (C + 2) (Z + 12) q140.2.1 q144.2 q140.2.2 y148 _ _ (by omega) (by omega) ls hf hL hS (lv_sub hl [3, 4, 5, 6, 0] rfl)
          · rw [if_pos c147] at hf
            refine lv_aload_n hx hb dL_law_928 rfl (lv_at hl 5 rfl) ?_
            refine lv_iconst (v := 0) hx hb dL_law_929 (by decide) ?_
            refine va_lald hx hb hK hL.2.2 0 1 rfl rfl in01 dL_law_930 ?_
            refine lv_iload hx hb dL_law_931 (lv_at hl 0 rfl) ?_
            refine lv_i2l (v := (y145.toInt64)) hx hb dL_law_933 rfl ?_
            refine W.lcmp hx hb dL_law_934 ?_
            refine lv_if_eq (tgt := 940) hx hb dL_law_935 (by decide) (fun c149 => ?_) (fun c149 => ?_)
            · rw [if_pos c149] at hf
              refine lv_goto (tgt := 1715) hx hb dL_law_940 (by decide) ?_
              obtain ⟨y150, ey150⟩ : ∃ y : Int32, y = (x4 + 4) := ⟨_, rfl⟩
              have hf := bnd_at hf ey150
              refine lv_iinc (v := y150) (lv' := [(4, .int y150), (6, .int y145), (5, .int y141), (0, .ref sb), (1, .ref (a 0)), (2, .ref (b 0)), (3, .ref oa)]) hx hb dL_law_1715 hl (k := 6) rfl (by rw [ey150]; rfl) (by decide) rfl (fun ls hl => ?_)
              refine lv_goto (tgt := 23) hx hb dL_law_1718 (by decide) ?_
              exact ih23 (C + 2) (Z + 12) q140.2.1 q144.2 q140.2.2 y150 _ _ (by omega) (by omega) ls hf hL hS (lv_sub hl [3, 4, 5, 6, 0] rfl)
            · rw [if_neg c149] at hf
              refine lv_iconst (v := 0) hx hb dL_law_938 (by decide) ?_
              cases hf
        · rw [if_neg c146] at hf
          refine lv_iconst (v := 0) hx hb dL_law_921 (by decide) ?_
          cases hf
      rw [if_neg c137] at hf
      by_cases c151 : y3 = 11
      · rw [if_pos c151] at hf
        refine lv_tableIn (off := 904) (tgt := 943) hx hb dL_law_39 (by rw [c151]; decide) (by rw [c151]; decide) (by rw [c151]; rfl) (by decide) ?_
        refine lv_aload_n hx hb dL_law_943 rfl (lv_at hl 1 rfl) ?_
        refine lv_aload_n hx hb dL_law_944 rfl (lv_at hl 0 rfl) ?_
        refine lv_iload hx hb dL_law_945 (lv_at hl 4 rfl) ?_
        refine lv_iconst (v := 1) hx hb dL_law_947 (by decide) ?_
        refine lv_iadd hx hb dL_law_948 ?_
        obtain ⟨v152, hv152, hf⟩ := ob_some hf
        refine rdSc hx hb hX hbl hbA hS hv152 dL_law_949 ?_
        refine lv_aload_n hx hb dL_law_950 rfl (lv_at hl 3 rfl) ?_
        obtain ⟨q153, hq153, hf⟩ := ob_some hf
        refine lw_wr (As := [.ref (a 0), .int v152, .ref oa]) (rest := []) ⟨hx, hb, hml, hown, hts⟩ (k_L_isLawful l hfl dC dI cA cL a oa S o v152 _ hq153 hF.1 hF.2.2.1) gL_law_L_isLawful rfl rfl rfl cd_L_isLawful (Nat.le_of_ble_eq_true rfl) (Nat.le_of_ble_eq_true rfl) (preL hK hL hF hE hN hS) rfl hl.1 rfl (Nat.le_of_ble_eq_true rfl) (by show C + 1 ≤ 601024; omega) (by show Z + 6 ≤ 7293033; omega) dL_law_951 hL hF hS (fun H locs hL hS => ?_)
        refine lv_topi (fun y154 ey154 => ?_)
        have hf := bnd_at hf ey154
        refine lv_istore (lv' := [(5, .int y154), (0, .ref sb), (1, .ref (a 0)), (2, .ref (b 0)), (3, .ref oa), (4, .int x4)]) hx hb dL_law_954 hl (by decide) rfl (fun ls hl => ?_)
        refine lv_aload_n hx hb dL_law_956 rfl (lv_at hl 3 rfl) ?_
        refine lv_aload_n hx hb dL_law_957 rfl (lv_at hl 1 rfl) ?_
        refine lv_iload hx hb dL_law_958 (lv_at hl 5 rfl) ?_
        refine lv_iconst (v := 1) hx hb dL_law_960 (by decide) ?_
        refine lv_iadd hx hb dL_law_961 ?_
        obtain ⟨v155, hv155, hf⟩ := ob_some hf
        refine rdSc hx hb hX hbl hbA hS hv155 dL_law_962 ?_
        obtain ⟨q156, hq156, hf⟩ := ob_some hf
        refine lw_mo (As := [.int v155]) (rest := []) ⟨hx, hb, hml, hown, hts⟩ (k_X1_isLawful l dC dI cA b T v155 _ hq156 hF.2.1) gL_law_X1_isLawful rfl rfl rfl cd_X1_isLawful (Nat.le_of_ble_eq_true rfl) (Nat.le_of_ble_eq_true rfl) (preM hK1 hL.2.1) rfl hl.1 rfl (Nat.le_of_ble_eq_true rfl) (by show (C + 1) ≤ 601024; omega) (by show (Z + 6) ≤ 7293033; omega) dL_law_963 hL hF hS (fun H locs hL hS => ?_)
        refine lv_topi (fun y157 ey157 => ?_)
        have hf := bnd_at hf ey157
        refine lv_istore (lv' := [(6, .int y157), (5, .int y154), (0, .ref sb), (1, .ref (a 0)), (2, .ref (b 0)), (3, .ref oa), (4, .int x4)]) hx hb dL_law_966 hl (by decide) rfl (fun ls hl => ?_)
        refine lv_aload_n hx hb dL_law_968 rfl (lv_at hl 4 rfl) ?_
        refine pu_V (As := []) (rest := []) ⟨hx, hb, hml, hown, hts⟩ (k_X1_thrown l dC dI cA b q156.2 _ rfl) gL_law_X1_thrown rfl rfl rfl cd_X1_thrown (Nat.le_of_ble_eq_true rfl) (Nat.le_of_ble_eq_true rfl) (preM hK1 hL.2.1) rfl hl.1 rfl (Nat.le_of_ble_eq_true rfl) (by show (C + 1) ≤ 601024; omega) (by show (Z + 6) ≤ 7293033; omega) dL_law_969 ?_
        refine lv_iload hx hb dL_law_972 (lv_at hl 1 rfl) ?_
        refine lv_icmp_eq (tgt := 979) hx hb dL_law_974 (by decide) (fun c158 => ?_) (fun c158 => ?_)
        · rw [if_pos c158] at hf
          refine lv_iload hx hb dL_law_979 (lv_at hl 1 rfl) ?_
          refine lv_if_ne (tgt := 1003) hx hb dL_law_981 (by decide) (fun c159 => ?_) (fun c159 => ?_)
          · rw [if_neg c159] at hf
            refine lv_goto (tgt := 1715) hx hb dL_law_1003 (by decide) ?_
            obtain ⟨y160, ey160⟩ : ∃ y : Int32, y = (x4 + 4) := ⟨_, rfl⟩
            have hf := bnd_at hf ey160
            refine lv_iinc (v := y160) (lv' := [(4, .int y160), (6, .int y157), (5, .int y154), (0, .ref sb), (1, .ref (a 0)), (2, .ref (b 0)), (3, .ref oa)]) hx hb dL_law_1715 hl (k := 6) rfl (by rw [ey160]; rfl) (by decide) rfl (fun ls hl => ?_)
            refine lv_goto (tgt := 23) hx hb dL_law_1718 (by decide) ?_
            exact ih23 (C + 1) (Z + 6) q153.2.1 q156.2 q153.2.2 y160 _ _ (by omega) (by omega) ls hf hL hS (lv_sub hl [3, 4, 5, 6, 0] rfl)
          · rw [if_pos c159] at hf
            refine lv_aload_n hx hb dL_law_984 rfl (lv_at hl 5 rfl) ?_
            refine lv_iconst (v := 0) hx hb dL_law_985 (by decide) ?_
            refine va_lald hx hb hK hL.2.2 0 1 rfl rfl in01 dL_law_986 ?_
            refine lv_iload hx hb dL_law_987 (lv_at hl 0 rfl) ?_
            refine lv_if_eq (tgt := 996) hx hb dL_law_989 (by decide) (fun c161 => ?_) (fun c161 => ?_)
            · rw [if_pos c161] at hf
              refine lv_lconst (v := 0) hx hb dL_law_996 (by decide) ?_
              exact hW997 q153.2.1 q156.2 q153.2.2 x4 (q153.2.2 (0 : Int32).toNatClampNeg) 0 _ _ ls hf hL hS (lv_sub hl [2, 3, 4, 5, 6] rfl)
            · rw [if_neg c161] at hf
              refine lv_lconst (v := 1) hx hb dL_law_992 (by decide) ?_
              refine lv_goto (tgt := 997) hx hb dL_law_993 (by decide) ?_
              exact hW997 q153.2.1 q156.2 q153.2.2 x4 (q153.2.2 (0 : Int32).toNatClampNeg) 1 _ _ ls hf hL hS (lv_sub hl [2, 3, 4, 5, 6] rfl)
        · rw [if_neg c158] at hf
          refine lv_iconst (v := 0) hx hb dL_law_977 (by decide) ?_
          cases hf
      rw [if_neg c151] at hf
      by_cases c162 : y3 = 12
      · rw [if_pos c162] at hf
        refine lv_tableIn (off := 967) (tgt := 1006) hx hb dL_law_39 (by rw [c162]; decide) (by rw [c162]; decide) (by rw [c162]; rfl) (by decide) ?_
        refine lv_aload_n hx hb dL_law_1006 rfl (lv_at hl 1 rfl) ?_
        refine lv_aload_n hx hb dL_law_1007 rfl (lv_at hl 0 rfl) ?_
        refine lv_iload hx hb dL_law_1008 (lv_at hl 4 rfl) ?_
        refine lv_iconst (v := 1) hx hb dL_law_1010 (by decide) ?_
        refine lv_iadd hx hb dL_law_1011 ?_
        obtain ⟨v163, hv163, hf⟩ := ob_some hf
        refine rdSc hx hb hX hbl hbA hS hv163 dL_law_1012 ?_
        refine lv_aload_n hx hb dL_law_1013 rfl (lv_at hl 3 rfl) ?_
        obtain ⟨q164, hq164, hf⟩ := ob_some hf
        refine lw_wr (As := [.ref (a 0), .int v163, .ref oa]) (rest := []) ⟨hx, hb, hml, hown, hts⟩ (k_L_rises l hfl dC dI cA cL a oa S o v163 _ hq164 hF.1 hF.2.2.1) gL_law_L_rises rfl rfl rfl cd_L_rises (Nat.le_of_ble_eq_true rfl) (Nat.le_of_ble_eq_true rfl) (preL hK hL hF hE hN hS) rfl hl.1 rfl (Nat.le_of_ble_eq_true rfl) (by show C + 1 ≤ 601024; omega) (by show Z + 6 ≤ 7293033; omega) dL_law_1014 hL hF hS (fun H locs hL hS => ?_)
        refine lv_topi (fun y165 ey165 => ?_)
        have hf := bnd_at hf ey165
        refine lv_istore (lv' := [(5, .int y165), (0, .ref sb), (1, .ref (a 0)), (2, .ref (b 0)), (3, .ref oa), (4, .int x4)]) hx hb dL_law_1017 hl (by decide) rfl (fun ls hl => ?_)
        refine lv_aload_n hx hb dL_law_1019 rfl (lv_at hl 3 rfl) ?_
        refine lv_aload_n hx hb dL_law_1020 rfl (lv_at hl 1 rfl) ?_
        refine lv_iload hx hb dL_law_1021 (lv_at hl 5 rfl) ?_
        refine lv_iconst (v := 1) hx hb dL_law_1023 (by decide) ?_
        refine lv_iadd hx hb dL_law_1024 ?_
        obtain ⟨v166, hv166, hf⟩ := ob_some hf
        refine rdSc hx hb hX hbl hbA hS hv166 dL_law_1025 ?_
        obtain ⟨q167, hq167, hf⟩ := ob_some hf
        refine lw_mo (As := [.int v166]) (rest := []) ⟨hx, hb, hml, hown, hts⟩ (k_X1_rises l dC dI cA b T v166 _ hq167 hF.2.1) gL_law_X1_rises rfl rfl rfl cd_X1_rises (Nat.le_of_ble_eq_true rfl) (Nat.le_of_ble_eq_true rfl) (preM hK1 hL.2.1) rfl hl.1 rfl (Nat.le_of_ble_eq_true rfl) (by show (C + 1) ≤ 601024; omega) (by show (Z + 6) ≤ 7293033; omega) dL_law_1026 hL hF hS (fun H locs hL hS => ?_)
        refine lv_topi (fun y168 ey168 => ?_)
        have hf := bnd_at hf ey168
        refine lv_istore (lv' := [(6, .int y168), (5, .int y165), (0, .ref sb), (1, .ref (a 0)), (2, .ref (b 0)), (3, .ref oa), (4, .int x4)]) hx hb dL_law_1029 hl (by decide) rfl (fun ls hl => ?_)
        refine lv_aload_n hx hb dL_law_1031 rfl (lv_at hl 4 rfl) ?_
        refine pu_V (As := []) (rest := []) ⟨hx, hb, hml, hown, hts⟩ (k_X1_thrown l dC dI cA b q167.2 _ rfl) gL_law_X1_thrown rfl rfl rfl cd_X1_thrown (Nat.le_of_ble_eq_true rfl) (Nat.le_of_ble_eq_true rfl) (preM hK1 hL.2.1) rfl hl.1 rfl (Nat.le_of_ble_eq_true rfl) (by show (C + 1) ≤ 601024; omega) (by show (Z + 6) ≤ 7293033; omega) dL_law_1032 ?_
        refine lv_iload hx hb dL_law_1035 (lv_at hl 1 rfl) ?_
        refine lv_icmp_eq (tgt := 1042) hx hb dL_law_1037 (by decide) (fun c169 => ?_) (fun c169 => ?_)
        · rw [if_pos c169] at hf
          refine lv_iload hx hb dL_law_1042 (lv_at hl 1 rfl) ?_
          refine lv_if_ne (tgt := 1066) hx hb dL_law_1044 (by decide) (fun c170 => ?_) (fun c170 => ?_)
          · rw [if_neg c170] at hf
            refine lv_goto (tgt := 1715) hx hb dL_law_1066 (by decide) ?_
            obtain ⟨y171, ey171⟩ : ∃ y : Int32, y = (x4 + 4) := ⟨_, rfl⟩
            have hf := bnd_at hf ey171
            refine lv_iinc (v := y171) (lv' := [(4, .int y171), (6, .int y168), (5, .int y165), (0, .ref sb), (1, .ref (a 0)), (2, .ref (b 0)), (3, .ref oa)]) hx hb dL_law_1715 hl (k := 6) rfl (by rw [ey171]; rfl) (by decide) rfl (fun ls hl => ?_)
            refine lv_goto (tgt := 23) hx hb dL_law_1718 (by decide) ?_
            exact ih23 (C + 1) (Z + 6) q164.2.1 q167.2 q164.2.2 y171 _ _ (by omega) (by omega) ls hf hL hS (lv_sub hl [3, 4, 5, 6, 0] rfl)
          · rw [if_pos c170] at hf
            refine lv_aload_n hx hb dL_law_1047 rfl (lv_at hl 5 rfl) ?_
            refine lv_iconst (v := 0) hx hb dL_law_1048 (by decide) ?_
            refine va_lald hx hb hK hL.2.2 0 1 rfl rfl in01 dL_law_1049 ?_
            refine lv_iload hx hb dL_law_1050 (lv_at hl 0 rfl) ?_
            refine lv_if_eq (tgt := 1059) hx hb dL_law_1052 (by decide) (fun c172 => ?_) (fun c172 => ?_)
            · rw [if_pos c172] at hf
              refine lv_lconst (v := 0) hx hb dL_law_1059 (by decide) ?_
              exact hW1060 q164.2.1 q167.2 q164.2.2 x4 (q164.2.2 (0 : Int32).toNatClampNeg) 0 _ _ ls hf hL hS (lv_sub hl [2, 3, 4, 5, 6] rfl)
            · rw [if_neg c172] at hf
              refine lv_lconst (v := 1) hx hb dL_law_1055 (by decide) ?_
              refine lv_goto (tgt := 1060) hx hb dL_law_1056 (by decide) ?_
              exact hW1060 q164.2.1 q167.2 q164.2.2 x4 (q164.2.2 (0 : Int32).toNatClampNeg) 1 _ _ ls hf hL hS (lv_sub hl [2, 3, 4, 5, 6] rfl)
        · rw [if_neg c169] at hf
          refine lv_iconst (v := 0) hx hb dL_law_1040 (by decide) ?_
          cases hf
      rw [if_neg c162] at hf
      by_cases c173 : y3 = 13
      · rw [if_pos c173] at hf
        refine lv_tableIn (off := 1030) (tgt := 1069) hx hb dL_law_39 (by rw [c173]; decide) (by rw [c173]; decide) (by rw [c173]; rfl) (by decide) ?_
        refine lv_aload_n hx hb dL_law_1069 rfl (lv_at hl 1 rfl) ?_
        refine lv_aload_n hx hb dL_law_1070 rfl (lv_at hl 0 rfl) ?_
        refine lv_iload hx hb dL_law_1071 (lv_at hl 4 rfl) ?_
        refine lv_iconst (v := 1) hx hb dL_law_1073 (by decide) ?_
        refine lv_iadd hx hb dL_law_1074 ?_
        obtain ⟨v174, hv174, hf⟩ := ob_some hf
        refine rdSc hx hb hX hbl hbA hS hv174 dL_law_1075 ?_
        refine lv_aload_n hx hb dL_law_1076 rfl (lv_at hl 3 rfl) ?_
        obtain ⟨q175, hq175, hf⟩ := ob_some hf
        refine lw_wr (As := [.ref (a 0), .int v174, .ref oa]) (rest := []) ⟨hx, hb, hml, hown, hts⟩ (k_L_least l hfl dC dI cA cL a oa S o v174 _ hq175 hF.1 hF.2.2.1) gL_law_L_least rfl rfl rfl cd_L_least (Nat.le_of_ble_eq_true rfl) (Nat.le_of_ble_eq_true rfl) (preL hK hL hF hE hN hS) rfl hl.1 rfl (Nat.le_of_ble_eq_true rfl) (by show C + 2 ≤ 601024; omega) (by show Z + 12 ≤ 7293033; omega) dL_law_1077 hL hF hS (fun H locs hL hS => ?_)
        refine lv_topi (fun y176 ey176 => ?_)
        have hf := bnd_at hf ey176
        refine lv_istore (lv' := [(5, .int y176), (0, .ref sb), (1, .ref (a 0)), (2, .ref (b 0)), (3, .ref oa), (4, .int x4)]) hx hb dL_law_1080 hl (by decide) rfl (fun ls hl => ?_)
        refine lv_aload_n hx hb dL_law_1082 rfl (lv_at hl 3 rfl) ?_
        refine lv_aload_n hx hb dL_law_1083 rfl (lv_at hl 1 rfl) ?_
        refine lv_iload hx hb dL_law_1084 (lv_at hl 5 rfl) ?_
        refine lv_iconst (v := 1) hx hb dL_law_1086 (by decide) ?_
        refine lv_iadd hx hb dL_law_1087 ?_
        obtain ⟨v177, hv177, hf⟩ := ob_some hf
        refine rdSc hx hb hX hbl hbA hS hv177 dL_law_1088 ?_
        obtain ⟨q178, hq178, hf⟩ := ob_some hf
        refine lw_mo (As := [.int v177]) (rest := []) ⟨hx, hb, hml, hown, hts⟩ (k_X1_least l dC dI cA b T v177 _ hq178 hF.2.1) gL_law_X1_least rfl rfl rfl cd_X1_least (Nat.le_of_ble_eq_true rfl) (Nat.le_of_ble_eq_true rfl) (preM hK1 hL.2.1) rfl hl.1 rfl (Nat.le_of_ble_eq_true rfl) (by show (C + 2) ≤ 601024; omega) (by show (Z + 12) ≤ 7293033; omega) dL_law_1089 hL hF hS (fun H locs hL hS => ?_)
        refine lv_topi (fun y179 ey179 => ?_)
        have hf := bnd_at hf ey179
        refine lv_istore (lv' := [(6, .int y179), (5, .int y176), (0, .ref sb), (1, .ref (a 0)), (2, .ref (b 0)), (3, .ref oa), (4, .int x4)]) hx hb dL_law_1092 hl (by decide) rfl (fun ls hl => ?_)
        refine lv_aload_n hx hb dL_law_1094 rfl (lv_at hl 4 rfl) ?_
        refine pu_V (As := []) (rest := []) ⟨hx, hb, hml, hown, hts⟩ (k_X1_thrown l dC dI cA b q178.2 _ rfl) gL_law_X1_thrown rfl rfl rfl cd_X1_thrown (Nat.le_of_ble_eq_true rfl) (Nat.le_of_ble_eq_true rfl) (preM hK1 hL.2.1) rfl hl.1 rfl (Nat.le_of_ble_eq_true rfl) (by show (C + 2) ≤ 601024; omega) (by show (Z + 12) ≤ 7293033; omega) dL_law_1095 ?_
        refine lv_iload hx hb dL_law_1098 (lv_at hl 1 rfl) ?_
        refine lv_icmp_eq (tgt := 1105) hx hb dL_law_1100 (by decide) (fun c180 => ?_) (fun c180 => ?_)
        · rw [if_pos c180] at hf
          refine lv_iload hx hb dL_law_1105 (lv_at hl 1 rfl) ?_
          refine lv_if_ne (tgt := 1122) hx hb dL_law_1107 (by decide) (fun c181 => ?_) (fun c181 => ?_)
          · rw [if_neg c181] at hf
            refine lv_goto (tgt := 1715) hx hb dL_law_1122 (by decide) ?_
            obtain ⟨y182, ey182⟩ : ∃ y : Int32, y = (x4 + 4) := ⟨_, rfl⟩
            have hf := bnd_at hf ey182
            refine lv_iinc (v := y182) (lv' := [(4, .int y182), (6, .int y179), (5, .int y176), (0, .ref sb), (1, .ref (a 0)), (2, .ref (b 0)), (3, .ref oa)]) hx hb dL_law_1715 hl (k := 6) rfl (by rw [ey182]; rfl) (by decide) rfl (fun ls hl => ?_)
            refine lv_goto (tgt := 23) hx hb dL_law_1718 (by decide) ?_
            exact ih23 (C + 2) (Z + 12) q175.2.1 q178.2 q175.2.2 y182 _ _ (by omega) (by omega) ls hf hL hS (lv_sub hl [3, 4, 5, 6, 0] rfl)
          · rw [if_pos c181] at hf
            refine lv_aload_n hx hb dL_law_1110 rfl (lv_at hl 5 rfl) ?_
            refine lv_iconst (v := 0) hx hb dL_law_1111 (by decide) ?_
            refine va_lald hx hb hK hL.2.2 0 1 rfl rfl in01 dL_law_1112 ?_
            refine lv_iload hx hb dL_law_1113 (lv_at hl 0 rfl) ?_
            refine lv_i2l (v := (y179.toInt64)) hx hb dL_law_1115 rfl ?_
            refine W.lcmp hx hb dL_law_1116 ?_
            refine lv_if_eq (tgt := 1122) hx hb dL_law_1117 (by decide) (fun c183 => ?_) (fun c183 => ?_)
            · rw [if_pos c183] at hf
              refine lv_goto (tgt := 1715) hx hb dL_law_1122 (by decide) ?_
              obtain ⟨y184, ey184⟩ : ∃ y : Int32, y = (x4 + 4) := ⟨_, rfl⟩
              have hf := bnd_at hf ey184
              refine lv_iinc (v := y184) (lv' := [(4, .int y184), (6, .int y179), (5, .int y176), (0, .ref sb), (1, .ref (a 0)), (2, .ref (b 0)), (3, .ref oa)]) hx hb dL_law_1715 hl (k := 6) rfl (by rw [ey184]; rfl) (by decide) rfl (fun ls hl => ?_)
              refine lv_goto (tgt := 23) hx hb dL_law_1718 (by decide) ?_
              exact ih23 (C + 2) (Z + 12) q175.2.1 q178.2 q175.2.2 y184 _ _ (by omega) (by omega) ls hf hL hS (lv_sub hl [3, 4, 5, 6, 0] rfl)
            · rw [if_neg c183] at hf
              refine lv_iconst (v := 0) hx hb dL_law_1120 (by decide) ?_
              cases hf
        · rw [if_neg c180] at hf
          refine lv_iconst (v := 0) hx hb dL_law_1103 (by decide) ?_
          cases hf
      rw [if_neg c173] at hf
      by_cases c185 : y3 = 14
      · rw [if_pos c185] at hf
        refine lv_tableIn (off := 1086) (tgt := 1125) hx hb dL_law_39 (by rw [c185]; decide) (by rw [c185]; decide) (by rw [c185]; rfl) (by decide) ?_
        refine lv_aload_n hx hb dL_law_1125 rfl (lv_at hl 1 rfl) ?_
        refine lv_aload_n hx hb dL_law_1126 rfl (lv_at hl 0 rfl) ?_
        refine lv_iload hx hb dL_law_1127 (lv_at hl 4 rfl) ?_
        refine lv_iconst (v := 1) hx hb dL_law_1129 (by decide) ?_
        refine lv_iadd hx hb dL_law_1130 ?_
        obtain ⟨v186, hv186, hf⟩ := ob_some hf
        refine rdSc hx hb hX hbl hbA hS hv186 dL_law_1131 ?_
        refine lv_aload_n hx hb dL_law_1132 rfl (lv_at hl 0 rfl) ?_
        refine lv_iload hx hb dL_law_1133 (lv_at hl 4 rfl) ?_
        refine lv_iconst (v := 2) hx hb dL_law_1135 (by decide) ?_
        refine lv_iadd hx hb dL_law_1136 ?_
        obtain ⟨v187, hv187, hf⟩ := ob_some hf
        refine rdSc hx hb hX hbl hbA hS hv187 dL_law_1137 ?_
        refine lv_if_eq (tgt := 1145) hx hb dL_law_1138 (by decide) (fun c188 => ?_) (fun c188 => ?_)
        · rw [if_pos c188] at hf
          refine lv_iconst (v := 0) hx hb dL_law_1145 (by decide) ?_
          exact hW1146 S T o x4 v186 0 _ _ ls hf hL hS (lv_sub hl [0, 1, 2, 3, 4] rfl)
        · rw [if_neg c188] at hf
          refine lv_iconst (v := 1) hx hb dL_law_1141 (by decide) ?_
          refine lv_goto (tgt := 1146) hx hb dL_law_1142 (by decide) ?_
          exact hW1146 S T o x4 v186 1 _ _ ls hf hL hS (lv_sub hl [0, 1, 2, 3, 4] rfl)
      rw [if_neg c185] at hf
      by_cases c189 : y3 = 15
      · rw [if_pos c189] at hf
        refine lv_tableIn (off := 1170) (tgt := 1209) hx hb dL_law_39 (by rw [c189]; decide) (by rw [c189]; decide) (by rw [c189]; rfl) (by decide) ?_
        refine lv_aload_n hx hb dL_law_1209 rfl (lv_at hl 1 rfl) ?_
        refine lv_aload_n hx hb dL_law_1210 rfl (lv_at hl 0 rfl) ?_
        refine lv_iload hx hb dL_law_1211 (lv_at hl 4 rfl) ?_
        refine lv_iconst (v := 1) hx hb dL_law_1213 (by decide) ?_
        refine lv_iadd hx hb dL_law_1214 ?_
        obtain ⟨v190, hv190, hf⟩ := ob_some hf
        refine rdSc hx hb hX hbl hbA hS hv190 dL_law_1215 ?_
        refine lv_aload_n hx hb dL_law_1216 rfl (lv_at hl 0 rfl) ?_
        refine lv_iload hx hb dL_law_1217 (lv_at hl 4 rfl) ?_
        refine lv_iconst (v := 2) hx hb dL_law_1219 (by decide) ?_
        refine lv_iadd hx hb dL_law_1220 ?_
        obtain ⟨v191, hv191, hf⟩ := ob_some hf
        refine rdSc hx hb hX hbl hbA hS hv191 dL_law_1221 ?_
        refine lv_if_eq (tgt := 1229) hx hb dL_law_1222 (by decide) (fun c192 => ?_) (fun c192 => ?_)
        · rw [if_pos c192] at hf
          refine lv_iconst (v := 0) hx hb dL_law_1229 (by decide) ?_
          exact hW1230 S T o x4 v190 0 _ _ ls hf hL hS (lv_sub hl [0, 1, 2, 3, 4] rfl)
        · rw [if_neg c192] at hf
          refine lv_iconst (v := 1) hx hb dL_law_1225 (by decide) ?_
          refine lv_goto (tgt := 1230) hx hb dL_law_1226 (by decide) ?_
          exact hW1230 S T o x4 v190 1 _ _ ls hf hL hS (lv_sub hl [0, 1, 2, 3, 4] rfl)
      rw [if_neg c189] at hf
      by_cases c193 : y3 = 16
      · rw [if_pos c193] at hf
        refine lv_tableIn (off := 1254) (tgt := 1293) hx hb dL_law_39 (by rw [c193]; decide) (by rw [c193]; decide) (by rw [c193]; rfl) (by decide) ?_
        refine lv_aload_n hx hb dL_law_1293 rfl (lv_at hl 1 rfl) ?_
        refine lv_aload_n hx hb dL_law_1294 rfl (lv_at hl 0 rfl) ?_
        refine lv_iload hx hb dL_law_1295 (lv_at hl 4 rfl) ?_
        refine lv_iconst (v := 1) hx hb dL_law_1297 (by decide) ?_
        refine lv_iadd hx hb dL_law_1298 ?_
        obtain ⟨v194, hv194, hf⟩ := ob_some hf
        refine rdSc hx hb hX hbl hbA hS hv194 dL_law_1299 ?_
        refine lv_aload_n hx hb dL_law_1300 rfl (lv_at hl 3 rfl) ?_
        obtain ⟨q195, hq195, hf⟩ := ob_some hf
        refine lw_wr (As := [.ref (a 0), .int v194, .ref oa]) (rest := []) ⟨hx, hb, hml, hown, hts⟩ (k_L_order l hfl dC dI cA cL a oa S o v194 _ hq195 hF.1 hF.2.2.1) gL_law_L_order rfl rfl rfl cd_L_order (Nat.le_of_ble_eq_true rfl) (Nat.le_of_ble_eq_true rfl) (preL hK hL hF hE hN hS) rfl hl.1 rfl (Nat.le_of_ble_eq_true rfl) (by show C + 2 ≤ 601024; omega) (by show Z + 12 ≤ 7293033; omega) dL_law_1301 hL hF hS (fun H locs hL hS => ?_)
        refine lv_topi (fun y196 ey196 => ?_)
        have hf := bnd_at hf ey196
        refine lv_istore (lv' := [(5, .int y196), (0, .ref sb), (1, .ref (a 0)), (2, .ref (b 0)), (3, .ref oa), (4, .int x4)]) hx hb dL_law_1304 hl (by decide) rfl (fun ls hl => ?_)
        refine lv_aload_n hx hb dL_law_1306 rfl (lv_at hl 3 rfl) ?_
        refine lv_aload_n hx hb dL_law_1307 rfl (lv_at hl 1 rfl) ?_
        refine lv_iload hx hb dL_law_1308 (lv_at hl 5 rfl) ?_
        refine lv_iconst (v := 1) hx hb dL_law_1310 (by decide) ?_
        refine lv_iadd hx hb dL_law_1311 ?_
        obtain ⟨v197, hv197, hf⟩ := ob_some hf
        refine rdSc hx hb hX hbl hbA hS hv197 dL_law_1312 ?_
        obtain ⟨q198, hq198, hf⟩ := ob_some hf
        refine lw_mo (As := [.int v197]) (rest := []) ⟨hx, hb, hml, hown, hts⟩ (k_X1_order l dC dI cA b T v197 _ hq198 hF.2.1) gL_law_X1_order rfl rfl rfl cd_X1_order (Nat.le_of_ble_eq_true rfl) (Nat.le_of_ble_eq_true rfl) (preM hK1 hL.2.1) rfl hl.1 rfl (Nat.le_of_ble_eq_true rfl) (by show (C + 2) ≤ 601024; omega) (by show (Z + 12) ≤ 7293033; omega) dL_law_1313 hL hF hS (fun H locs hL hS => ?_)
        refine lv_topi (fun y199 ey199 => ?_)
        have hf := bnd_at hf ey199
        refine lv_istore (lv' := [(6, .int y199), (5, .int y196), (0, .ref sb), (1, .ref (a 0)), (2, .ref (b 0)), (3, .ref oa), (4, .int x4)]) hx hb dL_law_1316 hl (by decide) rfl (fun ls hl => ?_)
        refine lv_aload_n hx hb dL_law_1318 rfl (lv_at hl 4 rfl) ?_
        refine pu_V (As := []) (rest := []) ⟨hx, hb, hml, hown, hts⟩ (k_X1_thrown l dC dI cA b q198.2 _ rfl) gL_law_X1_thrown rfl rfl rfl cd_X1_thrown (Nat.le_of_ble_eq_true rfl) (Nat.le_of_ble_eq_true rfl) (preM hK1 hL.2.1) rfl hl.1 rfl (Nat.le_of_ble_eq_true rfl) (by show (C + 2) ≤ 601024; omega) (by show (Z + 12) ≤ 7293033; omega) dL_law_1319 ?_
        refine lv_iload hx hb dL_law_1322 (lv_at hl 1 rfl) ?_
        refine lv_icmp_eq (tgt := 1329) hx hb dL_law_1324 (by decide) (fun c200 => ?_) (fun c200 => ?_)
        · rw [if_pos c200] at hf
          refine lv_iload hx hb dL_law_1329 (lv_at hl 1 rfl) ?_
          refine lv_if_ne (tgt := 1346) hx hb dL_law_1331 (by decide) (fun c201 => ?_) (fun c201 => ?_)
          · rw [if_neg c201] at hf
            refine lv_goto (tgt := 1715) hx hb dL_law_1346 (by decide) ?_
            obtain ⟨y202, ey202⟩ : ∃ y : Int32, y = (x4 + 4) := ⟨_, rfl⟩
            have hf := bnd_at hf ey202
            refine lv_iinc (v := y202) (lv' := [(4, .int y202), (6, .int y199), (5, .int y196), (0, .ref sb), (1, .ref (a 0)), (2, .ref (b 0)), (3, .ref oa)]) hx hb dL_law_1715 hl (k := 6) rfl (by rw [ey202]; rfl) (by decide) rfl (fun ls hl => ?_)
            refine lv_goto (tgt := 23) hx hb dL_law_1718 (by decide) ?_
            exact ih23 (C + 2) (Z + 12) q195.2.1 q198.2 q195.2.2 y202 _ _ (by omega) (by omega) ls hf hL hS (lv_sub hl [3, 4, 5, 6, 0] rfl)
          · rw [if_pos c201] at hf
            refine lv_aload_n hx hb dL_law_1334 rfl (lv_at hl 5 rfl) ?_
            refine lv_iconst (v := 0) hx hb dL_law_1335 (by decide) ?_
            refine va_lald hx hb hK hL.2.2 0 1 rfl rfl in01 dL_law_1336 ?_
            refine lv_iload hx hb dL_law_1337 (lv_at hl 0 rfl) ?_
            refine lv_i2l (v := (y199.toInt64)) hx hb dL_law_1339 rfl ?_
            refine W.lcmp hx hb dL_law_1340 ?_
            refine lv_if_eq (tgt := 1346) hx hb dL_law_1341 (by decide) (fun c203 => ?_) (fun c203 => ?_)
            · rw [if_pos c203] at hf
              refine lv_goto (tgt := 1715) hx hb dL_law_1346 (by decide) ?_
              obtain ⟨y204, ey204⟩ : ∃ y : Int32, y = (x4 + 4) := ⟨_, rfl⟩
              have hf := bnd_at hf ey204
              refine lv_iinc (v := y204) (lv' := [(4, .int y204), (6, .int y199), (5, .int y196), (0, .ref sb), (1, .ref (a 0)), (2, .ref (b 0)), (3, .ref oa)]) hx hb dL_law_1715 hl (k := 6) rfl (by rw [ey204]; rfl) (by decide) rfl (fun ls hl => ?_)
              refine lv_goto (tgt := 23) hx hb dL_law_1718 (by decide) ?_
              exact ih23 (C + 2) (Z + 12) q195.2.1 q198.2 q195.2.2 y204 _ _ (by omega) (by omega) ls hf hL hS (lv_sub hl [3, 4, 5, 6, 0] rfl)
            · rw [if_neg c203] at hf
              refine lv_iconst (v := 0) hx hb dL_law_1344 (by decide) ?_
              cases hf
        · rw [if_neg c200] at hf
          refine lv_iconst (v := 0) hx hb dL_law_1327 (by decide) ?_
          cases hf
      rw [if_neg c193] at hf
      by_cases c205 : y3 = 17
      · rw [if_pos c205] at hf
        refine lv_tableIn (off := 1310) (tgt := 1349) hx hb dL_law_39 (by rw [c205]; decide) (by rw [c205]; decide) (by rw [c205]; rfl) (by decide) ?_
        refine lv_aload_n hx hb dL_law_1349 rfl (lv_at hl 1 rfl) ?_
        refine lv_aload_n hx hb dL_law_1350 rfl (lv_at hl 0 rfl) ?_
        refine lv_iload hx hb dL_law_1351 (lv_at hl 4 rfl) ?_
        refine lv_iconst (v := 1) hx hb dL_law_1353 (by decide) ?_
        refine lv_iadd hx hb dL_law_1354 ?_
        obtain ⟨v206, hv206, hf⟩ := ob_some hf
        refine rdSc hx hb hX hbl hbA hS hv206 dL_law_1355 ?_
        refine lv_aload_n hx hb dL_law_1356 rfl (lv_at hl 0 rfl) ?_
        refine lv_iload hx hb dL_law_1357 (lv_at hl 4 rfl) ?_
        refine lv_iconst (v := 2) hx hb dL_law_1359 (by decide) ?_
        refine lv_iadd hx hb dL_law_1360 ?_
        obtain ⟨v207, hv207, hf⟩ := ob_some hf
        refine rdSc hx hb hX hbl hbA hS hv207 dL_law_1361 ?_
        refine lv_aload_n hx hb dL_law_1362 rfl (lv_at hl 3 rfl) ?_
        obtain ⟨q208, hq208, hf⟩ := ob_some hf
        refine lw_wr (As := [.ref (a 0), .int v206, .int v207, .ref oa]) (rest := []) ⟨hx, hb, hml, hown, hts⟩ (k_L_corner l hfl dC dI cA cL a oa S o v206 v207 _ hq208 hF.1 hF.2.2.1) gL_law_L_corner rfl rfl rfl cd_L_corner (Nat.le_of_ble_eq_true rfl) (Nat.le_of_ble_eq_true rfl) (preL hK hL hF hE hN hS) rfl hl.1 rfl (Nat.le_of_ble_eq_true rfl) (by show C + 2 ≤ 601024; omega) (by show Z + 12 ≤ 7293033; omega) dL_law_1363 hL hF hS (fun H locs hL hS => ?_)
        refine lv_topi (fun y209 ey209 => ?_)
        have hf := bnd_at hf ey209
        refine lv_istore (lv' := [(5, .int y209), (0, .ref sb), (1, .ref (a 0)), (2, .ref (b 0)), (3, .ref oa), (4, .int x4)]) hx hb dL_law_1366 hl (by decide) rfl (fun ls hl => ?_)
        refine lv_aload_n hx hb dL_law_1368 rfl (lv_at hl 3 rfl) ?_
        refine lv_aload_n hx hb dL_law_1369 rfl (lv_at hl 1 rfl) ?_
        refine lv_iload hx hb dL_law_1370 (lv_at hl 5 rfl) ?_
        refine lv_iconst (v := 1) hx hb dL_law_1372 (by decide) ?_
        refine lv_iadd hx hb dL_law_1373 ?_
        obtain ⟨v210, hv210, hf⟩ := ob_some hf
        refine rdSc hx hb hX hbl hbA hS hv210 dL_law_1374 ?_
        refine lv_aload_n hx hb dL_law_1375 rfl (lv_at hl 1 rfl) ?_
        refine lv_iload hx hb dL_law_1376 (lv_at hl 5 rfl) ?_
        refine lv_iconst (v := 2) hx hb dL_law_1378 (by decide) ?_
        refine lv_iadd hx hb dL_law_1379 ?_
        obtain ⟨v211, hv211, hf⟩ := ob_some hf
        refine rdSc hx hb hX hbl hbA hS hv211 dL_law_1380 ?_
        obtain ⟨q212, hq212, hf⟩ := ob_some hf
        refine lw_mo (As := [.int v210, .int v211]) (rest := []) ⟨hx, hb, hml, hown, hts⟩ (k_X1_corner l dC dI cA b T v210 v211 _ hq212 hF.2.1) gL_law_X1_corner rfl rfl rfl cd_X1_corner (Nat.le_of_ble_eq_true rfl) (Nat.le_of_ble_eq_true rfl) (preM hK1 hL.2.1) rfl hl.1 rfl (Nat.le_of_ble_eq_true rfl) (by show (C + 2) ≤ 601024; omega) (by show (Z + 12) ≤ 7293033; omega) dL_law_1381 hL hF hS (fun H locs hL hS => ?_)
        refine lv_topi (fun y213 ey213 => ?_)
        have hf := bnd_at hf ey213
        refine lv_istore (lv' := [(6, .int y213), (5, .int y209), (0, .ref sb), (1, .ref (a 0)), (2, .ref (b 0)), (3, .ref oa), (4, .int x4)]) hx hb dL_law_1384 hl (by decide) rfl (fun ls hl => ?_)
        refine lv_aload_n hx hb dL_law_1386 rfl (lv_at hl 4 rfl) ?_
        refine pu_V (As := []) (rest := []) ⟨hx, hb, hml, hown, hts⟩ (k_X1_thrown l dC dI cA b q212.2 _ rfl) gL_law_X1_thrown rfl rfl rfl cd_X1_thrown (Nat.le_of_ble_eq_true rfl) (Nat.le_of_ble_eq_true rfl) (preM hK1 hL.2.1) rfl hl.1 rfl (Nat.le_of_ble_eq_true rfl) (by show (C + 2) ≤ 601024; omega) (by show (Z + 12) ≤ 7293033; omega) dL_law_1387 ?_
        refine lv_iload hx hb dL_law_1390 (lv_at hl 1 rfl) ?_
        refine lv_icmp_eq (tgt := 1397) hx hb dL_law_1392 (by decide) (fun c214 => ?_) (fun c214 => ?_)
        · rw [if_pos c214] at hf
          refine lv_iload hx hb dL_law_1397 (lv_at hl 1 rfl) ?_
          refine lv_if_ne (tgt := 1414) hx hb dL_law_1399 (by decide) (fun c215 => ?_) (fun c215 => ?_)
          · rw [if_neg c215] at hf
            refine lv_goto (tgt := 1715) hx hb dL_law_1414 (by decide) ?_
            obtain ⟨y216, ey216⟩ : ∃ y : Int32, y = (x4 + 4) := ⟨_, rfl⟩
            have hf := bnd_at hf ey216
            refine lv_iinc (v := y216) (lv' := [(4, .int y216), (6, .int y213), (5, .int y209), (0, .ref sb), (1, .ref (a 0)), (2, .ref (b 0)), (3, .ref oa)]) hx hb dL_law_1715 hl (k := 6) rfl (by rw [ey216]; rfl) (by decide) rfl (fun ls hl => ?_)
            refine lv_goto (tgt := 23) hx hb dL_law_1718 (by decide) ?_
            exact ih23 (C + 2) (Z + 12) q208.2.1 q212.2 q208.2.2 y216 _ _ (by omega) (by omega) ls hf hL hS (lv_sub hl [3, 4, 5, 6, 0] rfl)
          · rw [if_pos c215] at hf
            refine lv_aload_n hx hb dL_law_1402 rfl (lv_at hl 5 rfl) ?_
            refine lv_iconst (v := 0) hx hb dL_law_1403 (by decide) ?_
            refine va_lald hx hb hK hL.2.2 0 1 rfl rfl in01 dL_law_1404 ?_
            refine lv_iload hx hb dL_law_1405 (lv_at hl 0 rfl) ?_
            refine lv_i2l (v := (y213.toInt64)) hx hb dL_law_1407 rfl ?_
            refine W.lcmp hx hb dL_law_1408 ?_
            refine lv_if_eq (tgt := 1414) hx hb dL_law_1409 (by decide) (fun c217 => ?_) (fun c217 => ?_)
            · rw [if_pos c217] at hf
              refine lv_goto (tgt := 1715) hx hb dL_law_1414 (by decide) ?_
              obtain ⟨y218, ey218⟩ : ∃ y : Int32, y = (x4 + 4) := ⟨_, rfl⟩
              have hf := bnd_at hf ey218
              refine lv_iinc (v := y218) (lv' := [(4, .int y218), (6, .int y213), (5, .int y209), (0, .ref sb), (1, .ref (a 0)), (2, .ref (b 0)), (3, .ref oa)]) hx hb dL_law_1715 hl (k := 6) rfl (by rw [ey218]; rfl) (by decide) rfl (fun ls hl => ?_)
              refine lv_goto (tgt := 23) hx hb dL_law_1718 (by decide) ?_
              exact ih23 (C + 2) (Z + 12) q208.2.1 q212.2 q208.2.2 y218 _ _ (by omega) (by omega) ls hf hL hS (lv_sub hl [3, 4, 5, 6, 0] rfl)
            · rw [if_neg c217] at hf
              refine lv_iconst (v := 0) hx hb dL_law_1412 (by decide) ?_
              cases hf
        · rw [if_neg c214] at hf
          refine lv_iconst (v := 0) hx hb dL_law_1395 (by decide) ?_
          cases hf
      rw [if_neg c205] at hf
      by_cases c219 : y3 = 18
      · rw [if_pos c219] at hf
        refine lv_tableIn (off := 1378) (tgt := 1417) hx hb dL_law_39 (by rw [c219]; decide) (by rw [c219]; decide) (by rw [c219]; rfl) (by decide) ?_
        refine lv_aload_n hx hb dL_law_1417 rfl (lv_at hl 1 rfl) ?_
        refine lv_aload_n hx hb dL_law_1418 rfl (lv_at hl 0 rfl) ?_
        refine lv_iload hx hb dL_law_1419 (lv_at hl 4 rfl) ?_
        refine lv_iconst (v := 1) hx hb dL_law_1421 (by decide) ?_
        refine lv_iadd hx hb dL_law_1422 ?_
        obtain ⟨v220, hv220, hf⟩ := ob_some hf
        refine rdSc hx hb hX hbl hbA hS hv220 dL_law_1423 ?_
        refine lv_aload_n hx hb dL_law_1424 rfl (lv_at hl 0 rfl) ?_
        refine lv_iload hx hb dL_law_1425 (lv_at hl 4 rfl) ?_
        refine lv_iconst (v := 2) hx hb dL_law_1427 (by decide) ?_
        refine lv_iadd hx hb dL_law_1428 ?_
        obtain ⟨v221, hv221, hf⟩ := ob_some hf
        refine rdSc hx hb hX hbl hbA hS hv221 dL_law_1429 ?_
        refine lv_aload_n hx hb dL_law_1430 rfl (lv_at hl 3 rfl) ?_
        obtain ⟨q222, hq222, hf⟩ := ob_some hf
        refine lw_wr (As := [.ref (a 0), .int v220, .int v221, .ref oa]) (rest := []) ⟨hx, hb, hml, hown, hts⟩ (k_L_greedy l hfl dC dI cA cL a oa S o v220 v221 _ hq222 hF.1 hF.2.2.1) gL_law_L_greedy rfl rfl rfl cd_L_greedy (Nat.le_of_ble_eq_true rfl) (Nat.le_of_ble_eq_true rfl) (preL hK hL hF hE hN hS) rfl hl.1 rfl (Nat.le_of_ble_eq_true rfl) (by show C + 2 ≤ 601024; omega) (by show Z + 12 ≤ 7293033; omega) dL_law_1431 hL hF hS (fun H locs hL hS => ?_)
        refine lv_topi (fun y223 ey223 => ?_)
        have hf := bnd_at hf ey223
        refine lv_istore (lv' := [(5, .int y223), (0, .ref sb), (1, .ref (a 0)), (2, .ref (b 0)), (3, .ref oa), (4, .int x4)]) hx hb dL_law_1434 hl (by decide) rfl (fun ls hl => ?_)
        refine lv_aload_n hx hb dL_law_1436 rfl (lv_at hl 3 rfl) ?_
        refine lv_aload_n hx hb dL_law_1437 rfl (lv_at hl 1 rfl) ?_
        refine lv_iload hx hb dL_law_1438 (lv_at hl 5 rfl) ?_
        refine lv_iconst (v := 1) hx hb dL_law_1440 (by decide) ?_
        refine lv_iadd hx hb dL_law_1441 ?_
        obtain ⟨v224, hv224, hf⟩ := ob_some hf
        refine rdSc hx hb hX hbl hbA hS hv224 dL_law_1442 ?_
        refine lv_aload_n hx hb dL_law_1443 rfl (lv_at hl 1 rfl) ?_
        refine lv_iload hx hb dL_law_1444 (lv_at hl 5 rfl) ?_
        refine lv_iconst (v := 2) hx hb dL_law_1446 (by decide) ?_
        refine lv_iadd hx hb dL_law_1447 ?_
        obtain ⟨v225, hv225, hf⟩ := ob_some hf
        refine rdSc hx hb hX hbl hbA hS hv225 dL_law_1448 ?_
        obtain ⟨q226, hq226, hf⟩ := ob_some hf
        refine lw_mo (As := [.int v224, .int v225]) (rest := []) ⟨hx, hb, hml, hown, hts⟩ (k_X1_greedy l dC dI cA b T v224 v225 _ hq226 hF.2.1) gL_law_X1_greedy rfl rfl rfl cd_X1_greedy (Nat.le_of_ble_eq_true rfl) (Nat.le_of_ble_eq_true rfl) (preM hK1 hL.2.1) rfl hl.1 rfl (Nat.le_of_ble_eq_true rfl) (by show (C + 2) ≤ 601024; omega) (by show (Z + 12) ≤ 7293033; omega) dL_law_1449 hL hF hS (fun H locs hL hS => ?_)
        refine lv_topi (fun y227 ey227 => ?_)
        have hf := bnd_at hf ey227
        refine lv_istore (lv' := [(6, .int y227), (5, .int y223), (0, .ref sb), (1, .ref (a 0)), (2, .ref (b 0)), (3, .ref oa), (4, .int x4)]) hx hb dL_law_1452 hl (by decide) rfl (fun ls hl => ?_)
        refine lv_aload_n hx hb dL_law_1454 rfl (lv_at hl 4 rfl) ?_
        refine pu_V (As := []) (rest := []) ⟨hx, hb, hml, hown, hts⟩ (k_X1_thrown l dC dI cA b q226.2 _ rfl) gL_law_X1_thrown rfl rfl rfl cd_X1_thrown (Nat.le_of_ble_eq_true rfl) (Nat.le_of_ble_eq_true rfl) (preM hK1 hL.2.1) rfl hl.1 rfl (Nat.le_of_ble_eq_true rfl) (by show (C + 2) ≤ 601024; omega) (by show (Z + 12) ≤ 7293033; omega) dL_law_1455 ?_
        refine lv_iload hx hb dL_law_1458 (lv_at hl 1 rfl) ?_
        refine lv_icmp_eq (tgt := 1465) hx hb dL_law_1460 (by decide) (fun c228 => ?_) (fun c228 => ?_)
        · rw [if_pos c228] at hf
          refine lv_iload hx hb dL_law_1465 (lv_at hl 1 rfl) ?_
          refine lv_if_ne (tgt := 1482) hx hb dL_law_1467 (by decide) (fun c229 => ?_) (fun c229 => ?_)
          · rw [if_neg c229] at hf
            refine lv_goto (tgt := 1715) hx hb dL_law_1482 (by decide) ?_
            obtain ⟨y230, ey230⟩ : ∃ y : Int32, y = (x4 + 4) := ⟨_, rfl⟩
            have hf := bnd_at hf ey230
            refine lv_iinc (v := y230) (lv' := [(4, .int y230), (6, .int y227), (5, .int y223), (0, .ref sb), (1, .ref (a 0)), (2, .ref (b 0)), (3, .ref oa)]) hx hb dL_law_1715 hl (k := 6) rfl (by rw [ey230]; rfl) (by decide) rfl (fun ls hl => ?_)
            refine lv_goto (tgt := 23) hx hb dL_law_1718 (by decide) ?_
            exact ih23 (C + 2) (Z + 12) q222.2.1 q226.2 q222.2.2 y230 _ _ (by omega) (by omega) ls hf hL hS (lv_sub hl [3, 4, 5, 6, 0] rfl)
          · rw [if_pos c229] at hf
            refine lv_aload_n hx hb dL_law_1470 rfl (lv_at hl 5 rfl) ?_
            refine lv_iconst (v := 0) hx hb dL_law_1471 (by decide) ?_
            refine va_lald hx hb hK hL.2.2 0 1 rfl rfl in01 dL_law_1472 ?_
            refine lv_iload hx hb dL_law_1473 (lv_at hl 0 rfl) ?_
            refine lv_i2l (v := (y227.toInt64)) hx hb dL_law_1475 rfl ?_
            refine W.lcmp hx hb dL_law_1476 ?_
            refine lv_if_eq (tgt := 1482) hx hb dL_law_1477 (by decide) (fun c231 => ?_) (fun c231 => ?_)
            · rw [if_pos c231] at hf
              refine lv_goto (tgt := 1715) hx hb dL_law_1482 (by decide) ?_
              obtain ⟨y232, ey232⟩ : ∃ y : Int32, y = (x4 + 4) := ⟨_, rfl⟩
              have hf := bnd_at hf ey232
              refine lv_iinc (v := y232) (lv' := [(4, .int y232), (6, .int y227), (5, .int y223), (0, .ref sb), (1, .ref (a 0)), (2, .ref (b 0)), (3, .ref oa)]) hx hb dL_law_1715 hl (k := 6) rfl (by rw [ey232]; rfl) (by decide) rfl (fun ls hl => ?_)
              refine lv_goto (tgt := 23) hx hb dL_law_1718 (by decide) ?_
              exact ih23 (C + 2) (Z + 12) q222.2.1 q226.2 q222.2.2 y232 _ _ (by omega) (by omega) ls hf hL hS (lv_sub hl [3, 4, 5, 6, 0] rfl)
            · rw [if_neg c231] at hf
              refine lv_iconst (v := 0) hx hb dL_law_1480 (by decide) ?_
              cases hf
        · rw [if_neg c228] at hf
          refine lv_iconst (v := 0) hx hb dL_law_1463 (by decide) ?_
          cases hf
      rw [if_neg c219] at hf
      by_cases c233 : y3 = 19
      · rw [if_pos c233] at hf
        refine lv_tableIn (off := 1446) (tgt := 1485) hx hb dL_law_39 (by rw [c233]; decide) (by rw [c233]; decide) (by rw [c233]; rfl) (by decide) ?_
        refine lv_aload_n hx hb dL_law_1485 rfl (lv_at hl 1 rfl) ?_
        refine lv_aload_n hx hb dL_law_1486 rfl (lv_at hl 0 rfl) ?_
        refine lv_iload hx hb dL_law_1487 (lv_at hl 4 rfl) ?_
        refine lv_iconst (v := 1) hx hb dL_law_1489 (by decide) ?_
        refine lv_iadd hx hb dL_law_1490 ?_
        obtain ⟨v234, hv234, hf⟩ := ob_some hf
        refine rdSc hx hb hX hbl hbA hS hv234 dL_law_1491 ?_
        refine lv_aload_n hx hb dL_law_1492 rfl (lv_at hl 0 rfl) ?_
        refine lv_iload hx hb dL_law_1493 (lv_at hl 4 rfl) ?_
        refine lv_iconst (v := 2) hx hb dL_law_1495 (by decide) ?_
        refine lv_iadd hx hb dL_law_1496 ?_
        obtain ⟨v235, hv235, hf⟩ := ob_some hf
        refine rdSc hx hb hX hbl hbA hS hv235 dL_law_1497 ?_
        refine lv_aload_n hx hb dL_law_1498 rfl (lv_at hl 3 rfl) ?_
        obtain ⟨q236, hq236, hf⟩ := ob_some hf
        refine lw_wr (As := [.ref (a 0), .int v234, .int v235, .ref oa]) (rest := []) ⟨hx, hb, hml, hown, hts⟩ (k_L_best l hfl dC dI cA cL a oa S o v234 v235 _ hq236 hF.1 hF.2.2.1) gL_law_L_best rfl rfl rfl cd_L_best (Nat.le_of_ble_eq_true rfl) (Nat.le_of_ble_eq_true rfl) (preL hK hL hF hE hN hS) rfl hl.1 rfl (Nat.le_of_ble_eq_true rfl) (by show C + 2 ≤ 601024; omega) (by show Z + 12 ≤ 7293033; omega) dL_law_1499 hL hF hS (fun H locs hL hS => ?_)
        refine lv_topi (fun y237 ey237 => ?_)
        have hf := bnd_at hf ey237
        refine lv_istore (lv' := [(5, .int y237), (0, .ref sb), (1, .ref (a 0)), (2, .ref (b 0)), (3, .ref oa), (4, .int x4)]) hx hb dL_law_1502 hl (by decide) rfl (fun ls hl => ?_)
        refine lv_aload_n hx hb dL_law_1504 rfl (lv_at hl 3 rfl) ?_
        refine lv_aload_n hx hb dL_law_1505 rfl (lv_at hl 1 rfl) ?_
        refine lv_iload hx hb dL_law_1506 (lv_at hl 5 rfl) ?_
        refine lv_iconst (v := 1) hx hb dL_law_1508 (by decide) ?_
        refine lv_iadd hx hb dL_law_1509 ?_
        obtain ⟨v238, hv238, hf⟩ := ob_some hf
        refine rdSc hx hb hX hbl hbA hS hv238 dL_law_1510 ?_
        refine lv_aload_n hx hb dL_law_1511 rfl (lv_at hl 1 rfl) ?_
        refine lv_iload hx hb dL_law_1512 (lv_at hl 5 rfl) ?_
        refine lv_iconst (v := 2) hx hb dL_law_1514 (by decide) ?_
        refine lv_iadd hx hb dL_law_1515 ?_
        obtain ⟨v239, hv239, hf⟩ := ob_some hf
        refine rdSc hx hb hX hbl hbA hS hv239 dL_law_1516 ?_
        obtain ⟨q240, hq240, hf⟩ := ob_some hf
        refine lw_mo (As := [.int v238, .int v239]) (rest := []) ⟨hx, hb, hml, hown, hts⟩ (k_X1_best l dC dI cA b T v238 v239 _ hq240 hF.2.1) gL_law_X1_best rfl rfl rfl cd_X1_best (Nat.le_of_ble_eq_true rfl) (Nat.le_of_ble_eq_true rfl) (preM hK1 hL.2.1) rfl hl.1 rfl (Nat.le_of_ble_eq_true rfl) (by show (C + 2) ≤ 601024; omega) (by show (Z + 12) ≤ 7293033; omega) dL_law_1517 hL hF hS (fun H locs hL hS => ?_)
        refine lv_topi (fun y241 ey241 => ?_)
        have hf := bnd_at hf ey241
        refine lv_istore (lv' := [(6, .int y241), (5, .int y237), (0, .ref sb), (1, .ref (a 0)), (2, .ref (b 0)), (3, .ref oa), (4, .int x4)]) hx hb dL_law_1520 hl (by decide) rfl (fun ls hl => ?_)
        refine lv_aload_n hx hb dL_law_1522 rfl (lv_at hl 4 rfl) ?_
        refine pu_V (As := []) (rest := []) ⟨hx, hb, hml, hown, hts⟩ (k_X1_thrown l dC dI cA b q240.2 _ rfl) gL_law_X1_thrown rfl rfl rfl cd_X1_thrown (Nat.le_of_ble_eq_true rfl) (Nat.le_of_ble_eq_true rfl) (preM hK1 hL.2.1) rfl hl.1 rfl (Nat.le_of_ble_eq_true rfl) (by show (C + 2) ≤ 601024; omega) (by show (Z + 12) ≤ 7293033; omega) dL_law_1523 ?_
        refine lv_iload hx hb dL_law_1526 (lv_at hl 1 rfl) ?_
        refine lv_icmp_eq (tgt := 1533) hx hb dL_law_1528 (by decide) (fun c242 => ?_) (fun c242 => ?_)
        · rw [if_pos c242] at hf
          refine lv_iload hx hb dL_law_1533 (lv_at hl 1 rfl) ?_
          refine lv_if_ne (tgt := 1550) hx hb dL_law_1535 (by decide) (fun c243 => ?_) (fun c243 => ?_)
          · rw [if_neg c243] at hf
            refine lv_goto (tgt := 1715) hx hb dL_law_1550 (by decide) ?_
            obtain ⟨y244, ey244⟩ : ∃ y : Int32, y = (x4 + 4) := ⟨_, rfl⟩
            have hf := bnd_at hf ey244
            refine lv_iinc (v := y244) (lv' := [(4, .int y244), (6, .int y241), (5, .int y237), (0, .ref sb), (1, .ref (a 0)), (2, .ref (b 0)), (3, .ref oa)]) hx hb dL_law_1715 hl (k := 6) rfl (by rw [ey244]; rfl) (by decide) rfl (fun ls hl => ?_)
            refine lv_goto (tgt := 23) hx hb dL_law_1718 (by decide) ?_
            exact ih23 (C + 2) (Z + 12) q236.2.1 q240.2 q236.2.2 y244 _ _ (by omega) (by omega) ls hf hL hS (lv_sub hl [3, 4, 5, 6, 0] rfl)
          · rw [if_pos c243] at hf
            refine lv_aload_n hx hb dL_law_1538 rfl (lv_at hl 5 rfl) ?_
            refine lv_iconst (v := 0) hx hb dL_law_1539 (by decide) ?_
            refine va_lald hx hb hK hL.2.2 0 1 rfl rfl in01 dL_law_1540 ?_
            refine lv_iload hx hb dL_law_1541 (lv_at hl 0 rfl) ?_
            refine lv_i2l (v := (y241.toInt64)) hx hb dL_law_1543 rfl ?_
            refine W.lcmp hx hb dL_law_1544 ?_
            refine lv_if_eq (tgt := 1550) hx hb dL_law_1545 (by decide) (fun c245 => ?_) (fun c245 => ?_)
            · rw [if_pos c245] at hf
              refine lv_goto (tgt := 1715) hx hb dL_law_1550 (by decide) ?_
              obtain ⟨y246, ey246⟩ : ∃ y : Int32, y = (x4 + 4) := ⟨_, rfl⟩
              have hf := bnd_at hf ey246
              refine lv_iinc (v := y246) (lv' := [(4, .int y246), (6, .int y241), (5, .int y237), (0, .ref sb), (1, .ref (a 0)), (2, .ref (b 0)), (3, .ref oa)]) hx hb dL_law_1715 hl (k := 6) rfl (by rw [ey246]; rfl) (by decide) rfl (fun ls hl => ?_)
              refine lv_goto (tgt := 23) hx hb dL_law_1718 (by decide) ?_
              exact ih23 (C + 2) (Z + 12) q236.2.1 q240.2 q236.2.2 y246 _ _ (by omega) (by omega) ls hf hL hS (lv_sub hl [3, 4, 5, 6, 0] rfl)
            · rw [if_neg c245] at hf
              refine lv_iconst (v := 0) hx hb dL_law_1548 (by decide) ?_
              cases hf
        · rw [if_neg c242] at hf
          refine lv_iconst (v := 0) hx hb dL_law_1531 (by decide) ?_
          cases hf
      rw [if_neg c233] at hf
      by_cases c247 : y3 = 20
      · rw [if_pos c247] at hf
        refine lv_tableIn (off := 1514) (tgt := 1553) hx hb dL_law_39 (by rw [c247]; decide) (by rw [c247]; decide) (by rw [c247]; rfl) (by decide) ?_
        refine lv_aload_n hx hb dL_law_1553 rfl (lv_at hl 1 rfl) ?_
        obtain ⟨q248, hq248, hf⟩ := ob_some hf
        refine lw_xo (As := []) (rest := []) ⟨hx, hb, hml, hown, hts⟩ (k_X0_common l dC dI cA a S _ hq248 hF.1) gL_law_X0_common rfl rfl rfl cd_X0_common (Nat.le_of_ble_eq_true rfl) (Nat.le_of_ble_eq_true rfl) (preX hK1 hL.1) rfl hl.1 rfl (Nat.le_of_ble_eq_true rfl) (by show C ≤ 601024; omega) (by show Z ≤ 7293033; omega) dL_law_1554 hL hF hS (fun H locs hL hS => ?_)
        refine lv_aload_n hx hb dL_law_1557 rfl (lv_at hl 2 rfl) ?_
        obtain ⟨q249, hq249, hf⟩ := ob_some hf
        refine lw_mo (As := []) (rest := [.int q248.1]) ⟨hx, hb, hml, hown, hts⟩ (k_X1_common l dC dI cA b T _ hq249 hF.2.1) gL_law_X1_common rfl rfl rfl cd_X1_common (Nat.le_of_ble_eq_true rfl) (Nat.le_of_ble_eq_true rfl) (preM hK1 hL.2.1) rfl hl.1 rfl (Nat.le_of_ble_eq_true rfl) (by show C ≤ 601024; omega) (by show Z ≤ 7293033; omega) dL_law_1558 hL hF hS (fun H locs hL hS => ?_)
        refine lv_icmp_eq (tgt := 1715) hx hb dL_law_1561 (by decide) (fun c250 => ?_) (fun c250 => ?_)
        · rw [if_pos c250] at hf
          obtain ⟨y251, ey251⟩ : ∃ y : Int32, y = (x4 + 4) := ⟨_, rfl⟩
          have hf := bnd_at hf ey251
          refine lv_iinc (v := y251) (lv' := [(4, .int y251), (0, .ref sb), (1, .ref (a 0)), (2, .ref (b 0)), (3, .ref oa)]) hx hb dL_law_1715 hl (k := 4) rfl (by rw [ey251]; rfl) (by decide) rfl (fun ls hl => ?_)
          refine lv_goto (tgt := 23) hx hb dL_law_1718 (by decide) ?_
          exact ih23 C Z q248.2 q249.2 o y251 _ _ (by omega) (by omega) ls hf hL hS (lv_sub hl [1, 2, 3, 4, 0] rfl)
        · rw [if_neg c250] at hf
          refine lv_iconst (v := 0) hx hb dL_law_1564 (by decide) ?_
          cases hf
      rw [if_neg c247] at hf
      by_cases c252 : y3 = 21
      · rw [if_pos c252] at hf
        refine lv_tableIn (off := 1527) (tgt := 1566) hx hb dL_law_39 (by rw [c252]; decide) (by rw [c252]; decide) (by rw [c252]; rfl) (by decide) ?_
        refine lv_aload_n hx hb dL_law_1566 rfl (lv_at hl 1 rfl) ?_
        obtain ⟨v253, hv253, hf⟩ := ob_some hf
        refine pu_V (As := []) (rest := []) ⟨hx, hb, hml, hown, hts⟩ (k_X0_commonAnew l dC dI cA a S _ hv253) gL_law_X0_commonAnew rfl rfl rfl cd_X0_commonAnew (Nat.le_of_ble_eq_true rfl) (Nat.le_of_ble_eq_true rfl) (preX hK1 hL.1) rfl hl.1 rfl (Nat.le_of_ble_eq_true rfl) (by show C ≤ 601024; omega) (by show Z ≤ 7293033; omega) dL_law_1567 ?_
        refine lv_aload_n hx hb dL_law_1570 rfl (lv_at hl 2 rfl) ?_
        obtain ⟨q254, hq254, hf⟩ := ob_some hf
        refine lw_mo (As := []) (rest := [.int v253]) ⟨hx, hb, hml, hown, hts⟩ (k_X1_commonAnew l dC dI cA b T _ hq254 hF.2.1) gL_law_X1_commonAnew rfl rfl rfl cd_X1_commonAnew (Nat.le_of_ble_eq_true rfl) (Nat.le_of_ble_eq_true rfl) (preM hK1 hL.2.1) rfl hl.1 rfl (Nat.le_of_ble_eq_true rfl) (by show C ≤ 601024; omega) (by show Z ≤ 7293033; omega) dL_law_1571 hL hF hS (fun H locs hL hS => ?_)
        refine lv_icmp_eq (tgt := 1715) hx hb dL_law_1574 (by decide) (fun c255 => ?_) (fun c255 => ?_)
        · rw [if_pos c255] at hf
          obtain ⟨y256, ey256⟩ : ∃ y : Int32, y = (x4 + 4) := ⟨_, rfl⟩
          have hf := bnd_at hf ey256
          refine lv_iinc (v := y256) (lv' := [(4, .int y256), (0, .ref sb), (1, .ref (a 0)), (2, .ref (b 0)), (3, .ref oa)]) hx hb dL_law_1715 hl (k := 4) rfl (by rw [ey256]; rfl) (by decide) rfl (fun ls hl => ?_)
          refine lv_goto (tgt := 23) hx hb dL_law_1718 (by decide) ?_
          exact ih23 C Z S q254.2 o y256 _ _ (by omega) (by omega) ls hf hL hS (lv_sub hl [1, 2, 3, 4, 0] rfl)
        · rw [if_neg c255] at hf
          refine lv_iconst (v := 0) hx hb dL_law_1577 (by decide) ?_
          cases hf
      rw [if_neg c252] at hf
      by_cases c257 : y3 = 22
      · rw [if_pos c257] at hf
        refine lv_tableIn (off := 1540) (tgt := 1579) hx hb dL_law_39 (by rw [c257]; decide) (by rw [c257]; decide) (by rw [c257]; rfl) (by decide) ?_
        refine lv_aload_n hx hb dL_law_1579 rfl (lv_at hl 1 rfl) ?_
        refine lv_aload_n hx hb dL_law_1580 rfl (lv_at hl 0 rfl) ?_
        refine lv_iload hx hb dL_law_1581 (lv_at hl 4 rfl) ?_
        refine lv_iconst (v := 1) hx hb dL_law_1583 (by decide) ?_
        refine lv_iadd hx hb dL_law_1584 ?_
        obtain ⟨v258, hv258, hf⟩ := ob_some hf
        refine rdSc hx hb hX hbl hbA hS hv258 dL_law_1585 ?_
        refine lv_aload_n hx hb dL_law_1586 rfl (lv_at hl 0 rfl) ?_
        refine lv_iload hx hb dL_law_1587 (lv_at hl 4 rfl) ?_
        refine lv_iconst (v := 2) hx hb dL_law_1589 (by decide) ?_
        refine lv_iadd hx hb dL_law_1590 ?_
        obtain ⟨v259, hv259, hf⟩ := ob_some hf
        refine rdSc hx hb hX hbl hbA hS hv259 dL_law_1591 ?_
        refine lv_aload_n hx hb dL_law_1592 rfl (lv_at hl 3 rfl) ?_
        obtain ⟨q260, hq260, hf⟩ := ob_some hf
        refine lw_wr (As := [.ref (a 0), .int v258, .int v259, .ref oa]) (rest := []) ⟨hx, hb, hml, hown, hts⟩ (k_L_share l hfl dC dI cA cL a oa S o v258 v259 _ hq260 hF.1 hF.2.2.1) gL_law_L_share rfl rfl rfl cd_L_share (Nat.le_of_ble_eq_true rfl) (Nat.le_of_ble_eq_true rfl) (preL hK hL hF hE hN hS) rfl hl.1 rfl (Nat.le_of_ble_eq_true rfl) (by show C + 1 ≤ 601024; omega) (by show Z + 6 ≤ 7293033; omega) dL_law_1593 hL hF hS (fun H locs hL hS => ?_)
        refine lv_topi (fun y261 ey261 => ?_)
        have hf := bnd_at hf ey261
        refine lv_istore (lv' := [(5, .int y261), (0, .ref sb), (1, .ref (a 0)), (2, .ref (b 0)), (3, .ref oa), (4, .int x4)]) hx hb dL_law_1596 hl (by decide) rfl (fun ls hl => ?_)
        refine lv_aload_n hx hb dL_law_1598 rfl (lv_at hl 3 rfl) ?_
        refine lv_aload_n hx hb dL_law_1599 rfl (lv_at hl 1 rfl) ?_
        refine lv_iload hx hb dL_law_1600 (lv_at hl 5 rfl) ?_
        refine lv_iconst (v := 1) hx hb dL_law_1602 (by decide) ?_
        refine lv_iadd hx hb dL_law_1603 ?_
        obtain ⟨v262, hv262, hf⟩ := ob_some hf
        refine rdSc hx hb hX hbl hbA hS hv262 dL_law_1604 ?_
        refine lv_aload_n hx hb dL_law_1605 rfl (lv_at hl 1 rfl) ?_
        refine lv_iload hx hb dL_law_1606 (lv_at hl 5 rfl) ?_
        refine lv_iconst (v := 2) hx hb dL_law_1608 (by decide) ?_
        refine lv_iadd hx hb dL_law_1609 ?_
        obtain ⟨v263, hv263, hf⟩ := ob_some hf
        refine rdSc hx hb hX hbl hbA hS hv263 dL_law_1610 ?_
        obtain ⟨q264, hq264, hf⟩ := ob_some hf
        refine lw_mo (As := [.int v262, .int v263]) (rest := []) ⟨hx, hb, hml, hown, hts⟩ (k_X1_share l dC dI cA b T v262 v263 _ hq264 hF.2.1) gL_law_X1_share rfl rfl rfl cd_X1_share (Nat.le_of_ble_eq_true rfl) (Nat.le_of_ble_eq_true rfl) (preM hK1 hL.2.1) rfl hl.1 rfl (Nat.le_of_ble_eq_true rfl) (by show (C + 1) ≤ 601024; omega) (by show (Z + 6) ≤ 7293033; omega) dL_law_1611 hL hF hS (fun H locs hL hS => ?_)
        refine lv_topi (fun y265 ey265 => ?_)
        have hf := bnd_at hf ey265
        refine lv_istore (lv' := [(6, .int y265), (5, .int y261), (0, .ref sb), (1, .ref (a 0)), (2, .ref (b 0)), (3, .ref oa), (4, .int x4)]) hx hb dL_law_1614 hl (by decide) rfl (fun ls hl => ?_)
        refine lv_aload_n hx hb dL_law_1616 rfl (lv_at hl 4 rfl) ?_
        refine pu_V (As := []) (rest := []) ⟨hx, hb, hml, hown, hts⟩ (k_X1_thrown l dC dI cA b q264.2 _ rfl) gL_law_X1_thrown rfl rfl rfl cd_X1_thrown (Nat.le_of_ble_eq_true rfl) (Nat.le_of_ble_eq_true rfl) (preM hK1 hL.2.1) rfl hl.1 rfl (Nat.le_of_ble_eq_true rfl) (by show (C + 1) ≤ 601024; omega) (by show (Z + 6) ≤ 7293033; omega) dL_law_1617 ?_
        refine lv_iload hx hb dL_law_1620 (lv_at hl 1 rfl) ?_
        refine lv_icmp_eq (tgt := 1627) hx hb dL_law_1622 (by decide) (fun c266 => ?_) (fun c266 => ?_)
        · rw [if_pos c266] at hf
          refine lv_iload hx hb dL_law_1627 (lv_at hl 1 rfl) ?_
          refine lv_if_ne (tgt := 1644) hx hb dL_law_1629 (by decide) (fun c267 => ?_) (fun c267 => ?_)
          · rw [if_neg c267] at hf
            refine lv_goto (tgt := 1715) hx hb dL_law_1644 (by decide) ?_
            obtain ⟨y268, ey268⟩ : ∃ y : Int32, y = (x4 + 4) := ⟨_, rfl⟩
            have hf := bnd_at hf ey268
            refine lv_iinc (v := y268) (lv' := [(4, .int y268), (6, .int y265), (5, .int y261), (0, .ref sb), (1, .ref (a 0)), (2, .ref (b 0)), (3, .ref oa)]) hx hb dL_law_1715 hl (k := 6) rfl (by rw [ey268]; rfl) (by decide) rfl (fun ls hl => ?_)
            refine lv_goto (tgt := 23) hx hb dL_law_1718 (by decide) ?_
            exact ih23 (C + 1) (Z + 6) q260.2.1 q264.2 q260.2.2 y268 _ _ (by omega) (by omega) ls hf hL hS (lv_sub hl [3, 4, 5, 6, 0] rfl)
          · rw [if_pos c267] at hf
            refine lv_aload_n hx hb dL_law_1632 rfl (lv_at hl 5 rfl) ?_
            refine lv_iconst (v := 0) hx hb dL_law_1633 (by decide) ?_
            refine va_lald hx hb hK hL.2.2 0 1 rfl rfl in01 dL_law_1634 ?_
            refine lv_iload hx hb dL_law_1635 (lv_at hl 0 rfl) ?_
            refine lv_i2l (v := (y265.toInt64)) hx hb dL_law_1637 rfl ?_
            refine W.lcmp hx hb dL_law_1638 ?_
            refine lv_if_eq (tgt := 1644) hx hb dL_law_1639 (by decide) (fun c269 => ?_) (fun c269 => ?_)
            · rw [if_pos c269] at hf
              refine lv_goto (tgt := 1715) hx hb dL_law_1644 (by decide) ?_
              obtain ⟨y270, ey270⟩ : ∃ y : Int32, y = (x4 + 4) := ⟨_, rfl⟩
              have hf := bnd_at hf ey270
              refine lv_iinc (v := y270) (lv' := [(4, .int y270), (6, .int y265), (5, .int y261), (0, .ref sb), (1, .ref (a 0)), (2, .ref (b 0)), (3, .ref oa)]) hx hb dL_law_1715 hl (k := 6) rfl (by rw [ey270]; rfl) (by decide) rfl (fun ls hl => ?_)
              refine lv_goto (tgt := 23) hx hb dL_law_1718 (by decide) ?_
              exact ih23 (C + 1) (Z + 6) q260.2.1 q264.2 q260.2.2 y270 _ _ (by omega) (by omega) ls hf hL hS (lv_sub hl [3, 4, 5, 6, 0] rfl)
            · rw [if_neg c269] at hf
              refine lv_iconst (v := 0) hx hb dL_law_1642 (by decide) ?_
              cases hf
        · rw [if_neg c266] at hf
          refine lv_iconst (v := 0) hx hb dL_law_1625 (by decide) ?_
          cases hf
      rw [if_neg c257] at hf
      by_cases c271 : y3 = 23
      · rw [if_pos c271] at hf
        refine lv_tableIn (off := 1608) (tgt := 1647) hx hb dL_law_39 (by rw [c271]; decide) (by rw [c271]; decide) (by rw [c271]; rfl) (by decide) ?_
        refine lv_aload_n hx hb dL_law_1647 rfl (lv_at hl 1 rfl) ?_
        refine lv_aload_n hx hb dL_law_1648 rfl (lv_at hl 0 rfl) ?_
        refine lv_iload hx hb dL_law_1649 (lv_at hl 4 rfl) ?_
        refine lv_iconst (v := 1) hx hb dL_law_1651 (by decide) ?_
        refine lv_iadd hx hb dL_law_1652 ?_
        obtain ⟨v272, hv272, hf⟩ := ob_some hf
        refine rdSc hx hb hX hbl hbA hS hv272 dL_law_1653 ?_
        refine lv_aload_n hx hb dL_law_1654 rfl (lv_at hl 0 rfl) ?_
        refine lv_iload hx hb dL_law_1655 (lv_at hl 4 rfl) ?_
        refine lv_iconst (v := 2) hx hb dL_law_1657 (by decide) ?_
        refine lv_iadd hx hb dL_law_1658 ?_
        obtain ⟨v273, hv273, hf⟩ := ob_some hf
        refine rdSc hx hb hX hbl hbA hS hv273 dL_law_1659 ?_
        refine lv_aload_n hx hb dL_law_1660 rfl (lv_at hl 3 rfl) ?_
        obtain ⟨q274, hq274, hf⟩ := ob_some hf
        refine lw_wr (As := [.ref (a 0), .int v272, .int v273, .ref oa]) (rest := []) ⟨hx, hb, hml, hown, hts⟩ (k_L_shareAnew l hfl dC dI cA cL a oa S o v272 v273 _ hq274 hF.1 hF.2.2.1) gL_law_L_shareAnew rfl rfl rfl cd_L_shareAnew (Nat.le_of_ble_eq_true rfl) (Nat.le_of_ble_eq_true rfl) (preL hK hL hF hE hN hS) rfl hl.1 rfl (Nat.le_of_ble_eq_true rfl) (by show C + 1 ≤ 601024; omega) (by show Z + 6 ≤ 7293033; omega) dL_law_1661 hL hF hS (fun H locs hL hS => ?_)
        refine lv_topi (fun y275 ey275 => ?_)
        have hf := bnd_at hf ey275
        refine lv_istore (lv' := [(5, .int y275), (0, .ref sb), (1, .ref (a 0)), (2, .ref (b 0)), (3, .ref oa), (4, .int x4)]) hx hb dL_law_1664 hl (by decide) rfl (fun ls hl => ?_)
        refine lv_aload_n hx hb dL_law_1666 rfl (lv_at hl 3 rfl) ?_
        refine lv_aload_n hx hb dL_law_1667 rfl (lv_at hl 1 rfl) ?_
        refine lv_iload hx hb dL_law_1668 (lv_at hl 5 rfl) ?_
        refine lv_iconst (v := 1) hx hb dL_law_1670 (by decide) ?_
        refine lv_iadd hx hb dL_law_1671 ?_
        obtain ⟨v276, hv276, hf⟩ := ob_some hf
        refine rdSc hx hb hX hbl hbA hS hv276 dL_law_1672 ?_
        refine lv_aload_n hx hb dL_law_1673 rfl (lv_at hl 1 rfl) ?_
        refine lv_iload hx hb dL_law_1674 (lv_at hl 5 rfl) ?_
        refine lv_iconst (v := 2) hx hb dL_law_1676 (by decide) ?_
        refine lv_iadd hx hb dL_law_1677 ?_
        obtain ⟨v277, hv277, hf⟩ := ob_some hf
        refine rdSc hx hb hX hbl hbA hS hv277 dL_law_1678 ?_
        obtain ⟨q278, hq278, hf⟩ := ob_some hf
        refine lw_mo (As := [.int v276, .int v277]) (rest := []) ⟨hx, hb, hml, hown, hts⟩ (k_X1_shareAnew l dC dI cA b T v276 v277 _ hq278 hF.2.1) gL_law_X1_shareAnew rfl rfl rfl cd_X1_shareAnew (Nat.le_of_ble_eq_true rfl) (Nat.le_of_ble_eq_true rfl) (preM hK1 hL.2.1) rfl hl.1 rfl (Nat.le_of_ble_eq_true rfl) (by show (C + 1) ≤ 601024; omega) (by show (Z + 6) ≤ 7293033; omega) dL_law_1679 hL hF hS (fun H locs hL hS => ?_)
        refine lv_topi (fun y279 ey279 => ?_)
        have hf := bnd_at hf ey279
        refine lv_istore (lv' := [(6, .int y279), (5, .int y275), (0, .ref sb), (1, .ref (a 0)), (2, .ref (b 0)), (3, .ref oa), (4, .int x4)]) hx hb dL_law_1682 hl (by decide) rfl (fun ls hl => ?_)
        refine lv_aload_n hx hb dL_law_1684 rfl (lv_at hl 4 rfl) ?_
        refine pu_V (As := []) (rest := []) ⟨hx, hb, hml, hown, hts⟩ (k_X1_thrown l dC dI cA b q278.2 _ rfl) gL_law_X1_thrown rfl rfl rfl cd_X1_thrown (Nat.le_of_ble_eq_true rfl) (Nat.le_of_ble_eq_true rfl) (preM hK1 hL.2.1) rfl hl.1 rfl (Nat.le_of_ble_eq_true rfl) (by show (C + 1) ≤ 601024; omega) (by show (Z + 6) ≤ 7293033; omega) dL_law_1685 ?_
        refine lv_iload hx hb dL_law_1688 (lv_at hl 1 rfl) ?_
        refine lv_icmp_eq (tgt := 1695) hx hb dL_law_1690 (by decide) (fun c280 => ?_) (fun c280 => ?_)
        · rw [if_pos c280] at hf
          refine lv_iload hx hb dL_law_1695 (lv_at hl 1 rfl) ?_
          refine lv_if_ne (tgt := 1712) hx hb dL_law_1697 (by decide) (fun c281 => ?_) (fun c281 => ?_)
          · rw [if_neg c281] at hf
            refine lv_goto (tgt := 1715) hx hb dL_law_1712 (by decide) ?_
            obtain ⟨y282, ey282⟩ : ∃ y : Int32, y = (x4 + 4) := ⟨_, rfl⟩
            have hf := bnd_at hf ey282
            refine lv_iinc (v := y282) (lv' := [(4, .int y282), (6, .int y279), (5, .int y275), (0, .ref sb), (1, .ref (a 0)), (2, .ref (b 0)), (3, .ref oa)]) hx hb dL_law_1715 hl (k := 6) rfl (by rw [ey282]; rfl) (by decide) rfl (fun ls hl => ?_)
            refine lv_goto (tgt := 23) hx hb dL_law_1718 (by decide) ?_
            exact ih23 (C + 1) (Z + 6) q274.2.1 q278.2 q274.2.2 y282 _ _ (by omega) (by omega) ls hf hL hS (lv_sub hl [3, 4, 5, 6, 0] rfl)
          · rw [if_pos c281] at hf
            refine lv_aload_n hx hb dL_law_1700 rfl (lv_at hl 5 rfl) ?_
            refine lv_iconst (v := 0) hx hb dL_law_1701 (by decide) ?_
            refine va_lald hx hb hK hL.2.2 0 1 rfl rfl in01 dL_law_1702 ?_
            refine lv_iload hx hb dL_law_1703 (lv_at hl 0 rfl) ?_
            refine lv_i2l (v := (y279.toInt64)) hx hb dL_law_1705 rfl ?_
            refine W.lcmp hx hb dL_law_1706 ?_
            refine lv_if_eq (tgt := 1712) hx hb dL_law_1707 (by decide) (fun c283 => ?_) (fun c283 => ?_)
            · rw [if_pos c283] at hf
              refine lv_goto (tgt := 1715) hx hb dL_law_1712 (by decide) ?_
              obtain ⟨y284, ey284⟩ : ∃ y : Int32, y = (x4 + 4) := ⟨_, rfl⟩
              have hf := bnd_at hf ey284
              refine lv_iinc (v := y284) (lv' := [(4, .int y284), (6, .int y279), (5, .int y275), (0, .ref sb), (1, .ref (a 0)), (2, .ref (b 0)), (3, .ref oa)]) hx hb dL_law_1715 hl (k := 6) rfl (by rw [ey284]; rfl) (by decide) rfl (fun ls hl => ?_)
              refine lv_goto (tgt := 23) hx hb dL_law_1718 (by decide) ?_
              exact ih23 (C + 1) (Z + 6) q274.2.1 q278.2 q274.2.2 y284 _ _ (by omega) (by omega) ls hf hL hS (lv_sub hl [3, 4, 5, 6, 0] rfl)
            · rw [if_neg c283] at hf
              refine lv_iconst (v := 0) hx hb dL_law_1710 (by decide) ?_
              cases hf
        · rw [if_neg c280] at hf
          refine lv_iconst (v := 0) hx hb dL_law_1693 (by decide) ?_
          cases hf
      rw [if_neg c271] at hf
      refine lv_tableOut (tgt := 1715) hx hb dL_law_39 (tabOut24 c4 c16 c21 c37 c53 c69 c83 c95 c109 c123 c137 c151 c162 c173 c185 c189 c193 c205 c219 c233 c247 c252 c257 c271) (by decide) ?_
      obtain ⟨y285, ey285⟩ : ∃ y : Int32, y = (x4 + 4) := ⟨_, rfl⟩
      have hf := bnd_at hf ey285
      refine lv_iinc (v := y285) (lv' := [(4, .int y285), (0, .ref sb), (1, .ref (a 0)), (2, .ref (b 0)), (3, .ref oa)]) hx hb dL_law_1715 hl (k := 4) rfl (by rw [ey285]; rfl) (by decide) rfl (fun ls hl => ?_)
      refine lv_goto (tgt := 23) hx hb dL_law_1718 (by decide) ?_
      exact ih23 C Z S T o y285 _ _ (by omega) (by omega) ls hf hL hS (lv_sub hl [1, 2, 3, 4, 0] rfl)
