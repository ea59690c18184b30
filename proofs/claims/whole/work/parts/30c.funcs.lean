def f_Lw_law_j1137_in53 (G : ho_G) (N : Nat) (σ : ho_H) (a0 : Nat) (a1 : Nat) (a2 : Nat) (a3 : Nat) (x4 : Int32) : Option ((ho_H × Int32) ⊕ ((ho_H) ⊕ (ho_H × Int32))) :=
  some (.inl (σ, x4 + 6))
def f_Lw_law_j245_in53 (G : ho_G) (N : Nat) (σ : ho_H) (a0 : Nat) (a1 : Nat) (a2 : Nat) (a3 : Nat) (x4 : Int32) : Option ((ho_H × Int32) ⊕ ((ho_H) ⊕ (ho_H × Int32))) :=
  f_Lw_law_j1137_in53 G N σ a0 a1 a2 a3 x4
def f_Lw_law_j301_in53 (G : ho_G) (N : Nat) (σ : ho_H) (a0 : Nat) (a1 : Nat) (a2 : Nat) (a3 : Nat) (x4 : Int32) : Option ((ho_H × Int32) ⊕ ((ho_H) ⊕ (ho_H × Int32))) :=
  f_Lw_law_j1137_in53 G N σ a0 a1 a2 a3 x4
def f_Lw_law_j369_in53 (G : ho_G) (N : Nat) (σ : ho_H) (a0 : Nat) (a1 : Nat) (a2 : Nat) (a3 : Nat) (x4 : Int32) : Option ((ho_H × Int32) ⊕ ((ho_H) ⊕ (ho_H × Int32))) :=
  f_Lw_law_j1137_in53 G N σ a0 a1 a2 a3 x4
def f_Lw_law_j437_in53 (G : ho_G) (N : Nat) (σ : ho_H) (a0 : Nat) (a1 : Nat) (a2 : Nat) (a3 : Nat) (x4 : Int32) : Option ((ho_H × Int32) ⊕ ((ho_H) ⊕ (ho_H × Int32))) :=
  f_Lw_law_j1137_in53 G N σ a0 a1 a2 a3 x4
def f_Lw_law_j493_in53 (G : ho_G) (N : Nat) (σ : ho_H) (a0 : Nat) (a1 : Nat) (a2 : Nat) (a3 : Nat) (x4 : Int32) : Option ((ho_H × Int32) ⊕ ((ho_H) ⊕ (ho_H × Int32))) :=
  f_Lw_law_j1137_in53 G N σ a0 a1 a2 a3 x4
def f_Lw_law_j537_in53 (G : ho_G) (N : Nat) (σ : ho_H) (a0 : Nat) (a1 : Nat) (a2 : Nat) (a3 : Nat) (x4 : Int32) : Option ((ho_H × Int32) ⊕ ((ho_H) ⊕ (ho_H × Int32))) :=
  f_Lw_law_j1137_in53 G N σ a0 a1 a2 a3 x4
def f_Lw_law_j605_in53 (G : ho_G) (N : Nat) (σ : ho_H) (a0 : Nat) (a1 : Nat) (a2 : Nat) (a3 : Nat) (x4 : Int32) : Option ((ho_H × Int32) ⊕ ((ho_H) ⊕ (ho_H × Int32))) :=
  f_Lw_law_j1137_in53 G N σ a0 a1 a2 a3 x4
def f_Lw_law_j673_in53 (G : ho_G) (N : Nat) (σ : ho_H) (a0 : Nat) (a1 : Nat) (a2 : Nat) (a3 : Nat) (x4 : Int32) : Option ((ho_H × Int32) ⊕ ((ho_H) ⊕ (ho_H × Int32))) :=
  f_Lw_law_j1137_in53 G N σ a0 a1 a2 a3 x4
def f_Lw_law_j789_in53 (G : ho_G) (N : Nat) (σ : ho_H) (a0 : Nat) (a1 : Nat) (a2 : Nat) (a3 : Nat) (x4 : Int32) : Option ((ho_H × Int32) ⊕ ((ho_H) ⊕ (ho_H × Int32))) :=
  f_Lw_law_j1137_in53 G N σ a0 a1 a2 a3 x4
def f_Lw_law_j881_in53 (G : ho_G) (N : Nat) (σ : ho_H) (a0 : Nat) (a1 : Nat) (a2 : Nat) (a3 : Nat) (x4 : Int32) : Option ((ho_H × Int32) ⊕ ((ho_H) ⊕ (ho_H × Int32))) :=
  f_Lw_law_j1137_in53 G N σ a0 a1 a2 a3 x4
def f_Lw_law_j949_in53 (G : ho_G) (N : Nat) (σ : ho_H) (a0 : Nat) (a1 : Nat) (a2 : Nat) (a3 : Nat) (x4 : Int32) : Option ((ho_H × Int32) ⊕ ((ho_H) ⊕ (ho_H × Int32))) :=
  f_Lw_law_j1137_in53 G N σ a0 a1 a2 a3 x4
def f_Lw_law_j1029_in53 (G : ho_G) (N : Nat) (σ : ho_H) (a0 : Nat) (a1 : Nat) (a2 : Nat) (a3 : Nat) (x4 : Int32) : Option ((ho_H × Int32) ⊕ ((ho_H) ⊕ (ho_H × Int32))) :=
  f_Lw_law_j1137_in53 G N σ a0 a1 a2 a3 x4
def f_Lw_law_j1109_in53 (G : ho_G) (N : Nat) (σ : ho_H) (a0 : Nat) (a1 : Nat) (a2 : Nat) (a3 : Nat) (x4 : Int32) : Option ((ho_H × Int32) ⊕ ((ho_H) ⊕ (ho_H × Int32))) :=
  f_Lw_law_j1137_in53 G N σ a0 a1 a2 a3 x4
def f_Lw_law_l53 (G : ho_G) (N : Nat) (a0 : Nat) (a1 : Nat) (a2 : Nat) (a3 : Nat) : ho_H × Int32 → Option ((ho_H × Int32) ⊕ ((ho_H) ⊕ (ho_H × Int32))) := fun (σ, x4) =>
  (ho_lnI G σ a0).bind fun v15 =>
  if (v15 - 6) < x4 then
  some (.inr (.inl σ))
  else
  (ho_ldI G σ a0 x4).bind fun v16 =>
  if (v16 &&& 15) = 0 then
  (ho_ldI G σ a0 (x4 + 1)).bind fun v18 =>
  (ho_ldI G σ a0 (x4 + 2)).bind fun v19 =>
  (ho_ldI G σ a0 (x4 + 3)).bind fun v20 =>
  (ho_ldI G σ a0 (x4 + 4)).bind fun v21 =>
  (ho_ldI G σ a0 (x4 + 5)).bind fun v22 =>
  bd2 (ho_ck σ (f_Lw_chain G N σ a1 v18 v19 v20 v21 v22 a3)) fun σ23 v24 =>
  (ho_ldI G σ23 a0 (x4 + 1)).bind fun v25 =>
  (ho_ldI G σ23 a0 (x4 + 2)).bind fun v26 =>
  (ho_ldI G σ23 a0 (x4 + 3)).bind fun v27 =>
  (ho_ldI G σ23 a0 (x4 + 4)).bind fun v28 =>
  (ho_ldI G σ23 a0 (x4 + 5)).bind fun v29 =>
  (ho_f σ23 a2 6).bind fun _ =>
  bd2 (ho_ck σ23 (f_Md_chain G N σ23 a2 v25 v26 v27 v28 v29)) fun σ31 v32 =>
  (ho_f σ31 a2 6).bind fun _ =>
  (f_Md_thrown G N σ31 a2).bind fun v34 =>
  if v34 = v24 then
  if ¬ v24 = 0 then
  f_Lw_law_j245_in53 G N σ31 a0 a1 a2 a3 x4
  else
  (ho_ldL G σ31 a3 2 0).bind fun v35 =>
  if (lg_cmp v35 v32.toInt64) = 0 then
  f_Lw_law_j245_in53 G N σ31 a0 a1 a2 a3 x4
  else
  some (.inr (.inr (σ31, 0)))
  else
  some (.inr (.inr (σ31, 0)))
  else
  if (v16 &&& 15) = 1 then
  (ho_ldI G σ a0 (x4 + 1)).bind fun v36 =>
  bd2 (ho_ck σ (f_Lw_tick G N σ a1 v36 a3)) fun σ37 v38 =>
  (ho_ldI G σ37 a0 (x4 + 1)).bind fun v39 =>
  (ho_f σ37 a2 6).bind fun _ =>
  bd2 (ho_ck σ37 (f_Md_tick G N σ37 a2 v39)) fun σ41 v42 =>
  (ho_f σ41 a2 6).bind fun _ =>
  (f_Md_thrown G N σ41 a2).bind fun v44 =>
  if v44 = v38 then
  if ¬ v38 = 0 then
  f_Lw_law_j301_in53 G N σ41 a0 a1 a2 a3 x4
  else
  (ho_ldL G σ41 a3 2 0).bind fun v45 =>
  if (lg_cmp v45 v42.toInt64) = 0 then
  f_Lw_law_j301_in53 G N σ41 a0 a1 a2 a3 x4
  else
  some (.inr (.inr (σ41, 0)))
  else
  some (.inr (.inr (σ41, 0)))
  else
  if (v16 &&& 15) = 2 then
  (ho_ldI G σ a0 (x4 + 1)).bind fun v46 =>
  (ho_ldI G σ a0 (x4 + 2)).bind fun v47 =>
  bd2 (ho_ck σ (f_Lw_load G N σ a1 v46 v47 a3)) fun σ48 v49 =>
  (ho_ldI G σ48 a0 (x4 + 1)).bind fun v50 =>
  (ho_ldI G σ48 a0 (x4 + 2)).bind fun v51 =>
  (ho_f σ48 a2 6).bind fun _ =>
  bd2 (ho_ck σ48 (f_Md_load G N σ48 a2 v50 v51)) fun σ53 v54 =>
  (ho_f σ53 a2 6).bind fun _ =>
  (f_Md_thrown G N σ53 a2).bind fun v56 =>
  if v56 = v49 then
  if ¬ v49 = 0 then
  f_Lw_law_j369_in53 G N σ53 a0 a1 a2 a3 x4
  else
  (ho_ldL G σ53 a3 2 0).bind fun v57 =>
  if (lg_cmp v57 v54.toInt64) = 0 then
  f_Lw_law_j369_in53 G N σ53 a0 a1 a2 a3 x4
  else
  some (.inr (.inr (σ53, 0)))
  else
  some (.inr (.inr (σ53, 0)))
  else
  if (v16 &&& 15) = 3 then
  (ho_ldI G σ a0 (x4 + 1)).bind fun v58 =>
  (ho_ldI G σ a0 (x4 + 2)).bind fun v59 =>
  bd2 (ho_ck σ (f_Lw_digest G N σ a1 v58 v59 a3)) fun σ60 v61 =>
  (ho_ldI G σ60 a0 (x4 + 1)).bind fun v62 =>
  (ho_ldI G σ60 a0 (x4 + 2)).bind fun v63 =>
  (ho_f σ60 a2 6).bind fun _ =>
  bd2 (ho_ck σ60 (f_Md_digest G N σ60 a2 v62 v63)) fun σ65 v66 =>
  (ho_f σ65 a2 6).bind fun _ =>
  (f_Md_thrown G N σ65 a2).bind fun v68 =>
  if v68 = v61 then
  if ¬ v61 = 0 then
  f_Lw_law_j437_in53 G N σ65 a0 a1 a2 a3 x4
  else
  (ho_ldL G σ65 a3 2 0).bind fun v69 =>
  if (lg_cmp v69 v66.toInt64) = 0 then
  f_Lw_law_j437_in53 G N σ65 a0 a1 a2 a3 x4
  else
  some (.inr (.inr (σ65, 0)))
  else
  some (.inr (.inr (σ65, 0)))
  else
  if (v16 &&& 15) = 4 then
  (ho_ldI G σ a0 (x4 + 1)).bind fun v70 =>
  bd2 (ho_ck σ (f_Lw_send G N σ a1 v70 a3)) fun σ71 v72 =>
  (ho_ldI G σ71 a0 (x4 + 1)).bind fun v73 =>
  (ho_f σ71 a2 6).bind fun _ =>
  bd2 (ho_ck σ71 (f_Md_send G N σ71 a2 v73)) fun σ75 v76 =>
  (ho_f σ75 a2 6).bind fun _ =>
  (f_Md_thrown G N σ75 a2).bind fun v78 =>
  if v78 = v72 then
  if ¬ v72 = 0 then
  f_Lw_law_j493_in53 G N σ75 a0 a1 a2 a3 x4
  else
  (ho_ldL G σ75 a3 2 0).bind fun v79 =>
  if (lg_cmp v79 v76.toInt64) = 0 then
  f_Lw_law_j493_in53 G N σ75 a0 a1 a2 a3 x4
  else
  some (.inr (.inr (σ75, 0)))
  else
  some (.inr (.inr (σ75, 0)))
  else
  if (v16 &&& 15) = 5 then
  bd2 (ho_ck σ (f_Lw_root G N σ a1 a3)) fun σ80 v81 =>
  (ho_f σ80 a2 6).bind fun _ =>
  bd2 (ho_ck σ80 (f_Md_root G N σ80 a2)) fun σ83 v84 =>
  (ho_f σ83 a2 6).bind fun _ =>
  (f_Md_thrown G N σ83 a2).bind fun v86 =>
  if v86 = v81 then
  if ¬ v81 = 0 then
  f_Lw_law_j537_in53 G N σ83 a0 a1 a2 a3 x4
  else
  (ho_ldL G σ83 a3 2 0).bind fun v87 =>
  if (lg_cmp v87 v84.toInt64) = 0 then
  f_Lw_law_j537_in53 G N σ83 a0 a1 a2 a3 x4
  else
  some (.inr (.inr (σ83, 0)))
  else
  some (.inr (.inr (σ83, 0)))
  else
  if (v16 &&& 15) = 6 then
  (ho_ldI G σ a0 (x4 + 1)).bind fun v88 =>
  (ho_ldI G σ a0 (x4 + 2)).bind fun v89 =>
  bd2 (ho_ck σ (f_Lw_packet G N σ a1 v88 v89 a3)) fun σ90 v91 =>
  (ho_ldI G σ90 a0 (x4 + 1)).bind fun v92 =>
  (ho_ldI G σ90 a0 (x4 + 2)).bind fun v93 =>
  (ho_f σ90 a2 6).bind fun _ =>
  bd2 (ho_ck σ90 (f_Md_packet G N σ90 a2 v92 v93)) fun σ95 v96 =>
  (ho_f σ95 a2 6).bind fun _ =>
  (f_Md_thrown G N σ95 a2).bind fun v98 =>
  if v98 = v91 then
  if ¬ v91 = 0 then
  f_Lw_law_j605_in53 G N σ95 a0 a1 a2 a3 x4
  else
  (ho_ldL G σ95 a3 2 0).bind fun v99 =>
  if (lg_cmp v99 v96.toInt64) = 0 then
  f_Lw_law_j605_in53 G N σ95 a0 a1 a2 a3 x4
  else
  some (.inr (.inr (σ95, 0)))
  else
  some (.inr (.inr (σ95, 0)))
  else
  if (v16 &&& 15) = 7 then
  (ho_ldI G σ a0 (x4 + 1)).bind fun v100 =>
  (ho_ldI G σ a0 (x4 + 2)).bind fun v101 =>
  bd2 (ho_ck σ (f_Lw_key G N σ a1 v100 v101 a3)) fun σ102 v103 =>
  (ho_ldI G σ102 a0 (x4 + 1)).bind fun v104 =>
  (ho_ldI G σ102 a0 (x4 + 2)).bind fun v105 =>
  (ho_f σ102 a2 6).bind fun _ =>
  bd2 (ho_ck σ102 (f_Md_key G N σ102 a2 v104 v105)) fun σ107 v108 =>
  (ho_f σ107 a2 6).bind fun _ =>
  (f_Md_thrown G N σ107 a2).bind fun v110 =>
  if v110 = v103 then
  if ¬ v103 = 0 then
  f_Lw_law_j673_in53 G N σ107 a0 a1 a2 a3 x4
  else
  (ho_ldL G σ107 a3 2 0).bind fun v111 =>
  if (lg_cmp v111 v108.toInt64) = 0 then
  f_Lw_law_j673_in53 G N σ107 a0 a1 a2 a3 x4
  else
  some (.inr (.inr (σ107, 0)))
  else
  some (.inr (.inr (σ107, 0)))
  else
  if (v16 &&& 15) = 8 then
  (ho_ldI G σ a0 (x4 + 1)).bind fun v112 =>
  (ho_ldI G σ a0 (x4 + 2)).bind fun v113 =>
  bd2 (ho_ck σ (f_Lw_join G N σ a1 v112 v113)) fun σ114 v115 =>
  (ho_ldI G σ114 a0 (x4 + 1)).bind fun v116 =>
  (ho_ldI G σ114 a0 (x4 + 2)).bind fun v117 =>
  (ho_f σ114 a2 6).bind fun _ =>
  (ho_cv σ114 (f_Md_join G N σ114 a2 v116 v117)).bind fun σ119 =>
  (ho_f σ119 a2 6).bind fun _ =>
  (f_Md_thrown G N σ119 a2).bind fun v121 =>
  if v121 = v115 then
  f_Lw_law_j1137_in53 G N σ119 a0 a1 a2 a3 x4
  else
  some (.inr (.inr (σ119, 0)))
  else
  if (v16 &&& 15) = 9 then
  (ho_ldI G σ a0 (x4 + 1)).bind fun v122 =>
  (ho_ldI G σ a0 (x4 + 2)).bind fun v123 =>
  bd2 (ho_ck σ (f_Lw_drift G N σ a1 v122 v123 a3)) fun σ124 v125 =>
  (ho_ldI G σ124 a0 (x4 + 1)).bind fun v126 =>
  (ho_ldI G σ124 a0 (x4 + 2)).bind fun v127 =>
  (ho_f σ124 a2 6).bind fun _ =>
  bd2 (ho_ck σ124 (f_Md_drift G N σ124 a2 v126 v127)) fun σ129 v130 =>
  (ho_f σ129 a2 6).bind fun _ =>
  (f_Md_thrown G N σ129 a2).bind fun v132 =>
  if v132 = v125 then
  if ¬ v125 = 0 then
  f_Lw_law_j789_in53 G N σ129 a0 a1 a2 a3 x4
  else
  (ho_ldL G σ129 a3 2 0).bind fun v133 =>
  if (lg_cmp v133 v130.toInt64) = 0 then
  f_Lw_law_j789_in53 G N σ129 a0 a1 a2 a3 x4
  else
  some (.inr (.inr (σ129, 0)))
  else
  some (.inr (.inr (σ129, 0)))
  else
  if (v16 &&& 15) = 10 then
  (ho_ldI G σ a0 (x4 + 1)).bind fun v134 =>
  (ho_ldI G σ a0 (x4 + 2)).bind fun v135 =>
  (ho_ldI G σ a0 (x4 + 3)).bind fun v136 =>
  (ho_ldI G σ a0 (x4 + 4)).bind fun v137 =>
  bd2 (ho_ck σ (f_Lw_arrive G N σ a1 v134 v135 v136 v137 a3)) fun σ138 v139 =>
  (ho_ldI G σ138 a0 (x4 + 1)).bind fun v140 =>
  (ho_ldI G σ138 a0 (x4 + 2)).bind fun v141 =>
  (ho_ldI G σ138 a0 (x4 + 3)).bind fun v142 =>
  (ho_ldI G σ138 a0 (x4 + 4)).bind fun v143 =>
  (ho_f σ138 a2 6).bind fun _ =>
  bd2 (ho_ck σ138 (f_Md_arrive G N σ138 a2 v140 v141 v142 v143)) fun σ145 v146 =>
  (ho_f σ145 a2 6).bind fun _ =>
  (f_Md_thrown G N σ145 a2).bind fun v148 =>
  if v148 = v139 then
  if ¬ v139 = 0 then
  f_Lw_law_j881_in53 G N σ145 a0 a1 a2 a3 x4
  else
  (ho_ldL G σ145 a3 2 0).bind fun v149 =>
  if (lg_cmp v149 v146.toInt64) = 0 then
  f_Lw_law_j881_in53 G N σ145 a0 a1 a2 a3 x4
  else
  some (.inr (.inr (σ145, 0)))
  else
  some (.inr (.inr (σ145, 0)))
  else
  if (v16 &&& 15) = 11 then
  (ho_ldI G σ a0 (x4 + 1)).bind fun v150 =>
  (ho_ldI G σ a0 (x4 + 2)).bind fun v151 =>
  bd2 (ho_ck σ (f_Lw_receiver G N σ a1 v150 v151 a3)) fun σ152 v153 =>
  (ho_ldI G σ152 a0 (x4 + 1)).bind fun v154 =>
  (ho_ldI G σ152 a0 (x4 + 2)).bind fun v155 =>
  (ho_f σ152 a2 6).bind fun _ =>
  bd2 (ho_ck σ152 (f_Md_receiver G N σ152 a2 v154 v155)) fun σ157 v158 =>
  (ho_f σ157 a2 6).bind fun _ =>
  (f_Md_thrown G N σ157 a2).bind fun v160 =>
  if v160 = v153 then
  if ¬ v153 = 0 then
  f_Lw_law_j949_in53 G N σ157 a0 a1 a2 a3 x4
  else
  (ho_ldL G σ157 a3 2 0).bind fun v161 =>
  if (lg_cmp v161 v158.toInt64) = 0 then
  f_Lw_law_j949_in53 G N σ157 a0 a1 a2 a3 x4
  else
  some (.inr (.inr (σ157, 0)))
  else
  some (.inr (.inr (σ157, 0)))
  else
  if (v16 &&& 15) = 12 then
  (ho_ldI G σ a0 (x4 + 1)).bind fun v162 =>
  (ho_ldI G σ a0 (x4 + 2)).bind fun v163 =>
  (ho_ldI G σ a0 (x4 + 3)).bind fun v164 =>
  bd2 (ho_ck σ (f_Lw_released G N σ a1 v162 v163 v164 a3)) fun σ165 v166 =>
  (ho_ldI G σ165 a0 (x4 + 1)).bind fun v167 =>
  (ho_ldI G σ165 a0 (x4 + 2)).bind fun v168 =>
  (ho_ldI G σ165 a0 (x4 + 3)).bind fun v169 =>
  (ho_f σ165 a2 6).bind fun _ =>
  bd2 (ho_ck σ165 (f_Md_released G N σ165 a2 v167 v168 v169)) fun σ171 v172 =>
  (ho_f σ171 a2 6).bind fun _ =>
  (f_Md_thrown G N σ171 a2).bind fun v174 =>
  if v174 = v166 then
  if ¬ v166 = 0 then
  f_Lw_law_j1029_in53 G N σ171 a0 a1 a2 a3 x4
  else
  (ho_ldL G σ171 a3 2 0).bind fun v175 =>
  if (lg_cmp v175 v172.toInt64) = 0 then
  f_Lw_law_j1029_in53 G N σ171 a0 a1 a2 a3 x4
  else
  some (.inr (.inr (σ171, 0)))
  else
  some (.inr (.inr (σ171, 0)))
  else
  if (v16 &&& 15) = 13 then
  (ho_ldI G σ a0 (x4 + 1)).bind fun v176 =>
  (ho_ldI G σ a0 (x4 + 2)).bind fun v177 =>
  (ho_ldI G σ a0 (x4 + 3)).bind fun v178 =>
  bd2 (ho_ck σ (f_Lw_releasedByte G N σ a1 v176 v177 v178 a3)) fun σ179 v180 =>
  (ho_ldI G σ179 a0 (x4 + 1)).bind fun v181 =>
  (ho_ldI G σ179 a0 (x4 + 2)).bind fun v182 =>
  (ho_ldI G σ179 a0 (x4 + 3)).bind fun v183 =>
  (ho_f σ179 a2 6).bind fun _ =>
  bd2 (ho_ck σ179 (f_Md_releasedByte G N σ179 a2 v181 v182 v183)) fun σ185 v186 =>
  (ho_f σ185 a2 6).bind fun _ =>
  (f_Md_thrown G N σ185 a2).bind fun v188 =>
  if v188 = v180 then
  if ¬ v180 = 0 then
  f_Lw_law_j1109_in53 G N σ185 a0 a1 a2 a3 x4
  else
  (ho_ldL G σ185 a3 2 0).bind fun v189 =>
  if (lg_cmp v189 v186.toInt64) = 0 then
  f_Lw_law_j1109_in53 G N σ185 a0 a1 a2 a3 x4
  else
  some (.inr (.inr (σ185, 0)))
  else
  some (.inr (.inr (σ185, 0)))
  else
  if (v16 &&& 15) = 14 then
  (ho_ldI G σ a0 (x4 + 1)).bind fun v190 =>
  (ho_f σ a1 5).bind fun _ =>
  (f_Of_count G N σ a1 v190).bind fun v192 =>
  (ho_ldI G σ a0 (x4 + 1)).bind fun v193 =>
  (ho_f σ a2 6).bind fun _ =>
  bd2 (ho_ck σ (f_Md_count G N σ a2 v193)) fun σ195 v196 =>
  if v192 = v196 then
  f_Lw_law_j1137_in53 G N σ195 a0 a1 a2 a3 x4
  else
  some (.inr (.inr (σ195, 0)))
  else
  f_Lw_law_j1137_in53 G N σ a0 a1 a2 a3 x4
def f_Lw_law (G : ho_G) (N : Nat) (σ : ho_H) (a0 : Nat) : Option (ho_H × Int32) :=
  bd2 (ho_al G σ 7 (.inr (5, [.null, .null, .null, .null, .int 0, .null, .null]))) fun σ1 b2 =>
  (f_Lw_cell G N σ1 a0 0).bind fun v3 =>
  (f_Lw_cell G N σ1 a0 1).bind fun v4 =>
  (f_Lw_cell G N σ1 a0 2).bind fun v5 =>
  (ho_cv σ1 (f_Of_init G N σ1 b2 v3 v4 v5)).bind fun σ6 =>
  bd2 (ho_al G σ6 40 (.inr (6, [.null, .null, .null, .null, .null, .null, .int 0, .null, .int 0, .null, .int 0, .null, .int 0, .int 0, .int 0, .int 0, .int 0, .int 0, .int 0, .null, .null, .null, .null, .null, .null, .null, .null, .null, .null, .null, .null, .null, .null, .null, .null, .null, .null, .null, .null, .null]))) fun σ7 b8 =>
  (f_Lw_cell G N σ7 a0 0).bind fun v9 =>
  (f_Lw_cell G N σ7 a0 1).bind fun v10 =>
  (f_Lw_cell G N σ7 a0 2).bind fun v11 =>
  (ho_cv σ7 (f_Md_init G N σ7 b8 v9 v10 v11)).bind fun σ12 =>
  bd2 (ho_nwL G σ12 2 1) fun σ13 b14 =>
  (ho_it (f_Lw_law_l53 G N a0 b2 b8 b14) N (σ13, 3)).bind (sm_e (fun σ197 =>
  some (σ197, 1)) (fun z => some z))
