set_option maxHeartbeats 4000000 in
set_option maxRecDepth 100000 in
theorem w_Lw_law_j1137_in53 {k : mk_T} (X : hv_X k b_Lw_law y_Lw_law.cls 7 12 312 (some .boolean) y_Lw_law.name) (hlt : k.1.2.1.stackTraces = false) (N : Nat) (σ : ho_H) (a0 : Nat) (a1 : Nat) (a2 : Nat) (a3 : Nat) (x4 : Int32)  (r : (ho_H × Int32) ⊕ ((ho_H) ⊕ (ho_H × Int32))) (hf : f_Lw_law_j1137_in53 k.2.1 N σ a0 a1 a2 a3 x4 = some r) (E : sm (fun s => hv_V k s.1 53 [some (.ref a0), some (.ref a1), some (.ref a2), some (.ref a3), some (.int s.2), none, none] []) (sm (fun s => hv_V k s 1143 [none, none, none, none, none, none, none] []) (fun z => hl_end k z.1 z.2)) r) : hv_V k σ 1137 [some (.ref a0), some (.ref a1), some (.ref a2), some (.ref a3), some (.int x4), none, none] [] := by
  unfold f_Lw_law_j1137_in53 at hf
  refine hv_iinc (pn := 1140) (i := 4) (v := x4 + 6) (lo' := [some (.ref a0), some (.ref a1), some (.ref a2), some (.ref a3), some (.int (x4 + 6)), none, none]) X d_Lw_law_1137 ?_
  refine hv_goto (tgt := 53) X d_Lw_law_1140 (by decide) ?_
  cases hf
  exact E
set_option maxHeartbeats 4000000 in
set_option maxRecDepth 100000 in
theorem w_Lw_law_j245_in53 {k : mk_T} (X : hv_X k b_Lw_law y_Lw_law.cls 7 12 312 (some .boolean) y_Lw_law.name) (hlt : k.1.2.1.stackTraces = false) (N : Nat) (σ : ho_H) (a0 : Nat) (a1 : Nat) (a2 : Nat) (a3 : Nat) (x4 : Int32)  (r : (ho_H × Int32) ⊕ ((ho_H) ⊕ (ho_H × Int32))) (hf : f_Lw_law_j245_in53 k.2.1 N σ a0 a1 a2 a3 x4 = some r) (E : sm (fun s => hv_V k s.1 53 [some (.ref a0), some (.ref a1), some (.ref a2), some (.ref a3), some (.int s.2), none, none] []) (sm (fun s => hv_V k s 1143 [none, none, none, none, none, none, none] []) (fun z => hl_end k z.1 z.2)) r) : hv_V k σ 245 [some (.ref a0), some (.ref a1), some (.ref a2), some (.ref a3), some (.int x4), none, none] [] := by
  unfold f_Lw_law_j245_in53 at hf
  refine hv_goto (tgt := 1137) X d_Lw_law_245 (by decide) ?_
  exact w_Lw_law_j1137_in53 X hlt N σ a0 a1 a2 a3 x4  _ hf E
set_option maxHeartbeats 4000000 in
set_option maxRecDepth 100000 in
theorem w_Lw_law_j301_in53 {k : mk_T} (X : hv_X k b_Lw_law y_Lw_law.cls 7 12 312 (some .boolean) y_Lw_law.name) (hlt : k.1.2.1.stackTraces = false) (N : Nat) (σ : ho_H) (a0 : Nat) (a1 : Nat) (a2 : Nat) (a3 : Nat) (x4 : Int32)  (r : (ho_H × Int32) ⊕ ((ho_H) ⊕ (ho_H × Int32))) (hf : f_Lw_law_j301_in53 k.2.1 N σ a0 a1 a2 a3 x4 = some r) (E : sm (fun s => hv_V k s.1 53 [some (.ref a0), some (.ref a1), some (.ref a2), some (.ref a3), some (.int s.2), none, none] []) (sm (fun s => hv_V k s 1143 [none, none, none, none, none, none, none] []) (fun z => hl_end k z.1 z.2)) r) : hv_V k σ 301 [some (.ref a0), some (.ref a1), some (.ref a2), some (.ref a3), some (.int x4), none, none] [] := by
  unfold f_Lw_law_j301_in53 at hf
  refine hv_goto (tgt := 1137) X d_Lw_law_301 (by decide) ?_
  exact w_Lw_law_j1137_in53 X hlt N σ a0 a1 a2 a3 x4  _ hf E
set_option maxHeartbeats 4000000 in
set_option maxRecDepth 100000 in
theorem w_Lw_law_j369_in53 {k : mk_T} (X : hv_X k b_Lw_law y_Lw_law.cls 7 12 312 (some .boolean) y_Lw_law.name) (hlt : k.1.2.1.stackTraces = false) (N : Nat) (σ : ho_H) (a0 : Nat) (a1 : Nat) (a2 : Nat) (a3 : Nat) (x4 : Int32)  (r : (ho_H × Int32) ⊕ ((ho_H) ⊕ (ho_H × Int32))) (hf : f_Lw_law_j369_in53 k.2.1 N σ a0 a1 a2 a3 x4 = some r) (E : sm (fun s => hv_V k s.1 53 [some (.ref a0), some (.ref a1), some (.ref a2), some (.ref a3), some (.int s.2), none, none] []) (sm (fun s => hv_V k s 1143 [none, none, none, none, none, none, none] []) (fun z => hl_end k z.1 z.2)) r) : hv_V k σ 369 [some (.ref a0), some (.ref a1), some (.ref a2), some (.ref a3), some (.int x4), none, none] [] := by
  unfold f_Lw_law_j369_in53 at hf
  refine hv_goto (tgt := 1137) X d_Lw_law_369 (by decide) ?_
  exact w_Lw_law_j1137_in53 X hlt N σ a0 a1 a2 a3 x4  _ hf E
set_option maxHeartbeats 4000000 in
set_option maxRecDepth 100000 in
theorem w_Lw_law_j437_in53 {k : mk_T} (X : hv_X k b_Lw_law y_Lw_law.cls 7 12 312 (some .boolean) y_Lw_law.name) (hlt : k.1.2.1.stackTraces = false) (N : Nat) (σ : ho_H) (a0 : Nat) (a1 : Nat) (a2 : Nat) (a3 : Nat) (x4 : Int32)  (r : (ho_H × Int32) ⊕ ((ho_H) ⊕ (ho_H × Int32))) (hf : f_Lw_law_j437_in53 k.2.1 N σ a0 a1 a2 a3 x4 = some r) (E : sm (fun s => hv_V k s.1 53 [some (.ref a0), some (.ref a1), some (.ref a2), some (.ref a3), some (.int s.2), none, none] []) (sm (fun s => hv_V k s 1143 [none, none, none, none, none, none, none] []) (fun z => hl_end k z.1 z.2)) r) : hv_V k σ 437 [some (.ref a0), some (.ref a1), some (.ref a2), some (.ref a3), some (.int x4), none, none] [] := by
  unfold f_Lw_law_j437_in53 at hf
  refine hv_goto (tgt := 1137) X d_Lw_law_437 (by decide) ?_
  exact w_Lw_law_j1137_in53 X hlt N σ a0 a1 a2 a3 x4  _ hf E
set_option maxHeartbeats 4000000 in
set_option maxRecDepth 100000 in
theorem w_Lw_law_j493_in53 {k : mk_T} (X : hv_X k b_Lw_law y_Lw_law.cls 7 12 312 (some .boolean) y_Lw_law.name) (hlt : k.1.2.1.stackTraces = false) (N : Nat) (σ : ho_H) (a0 : Nat) (a1 : Nat) (a2 : Nat) (a3 : Nat) (x4 : Int32)  (r : (ho_H × Int32) ⊕ ((ho_H) ⊕ (ho_H × Int32))) (hf : f_Lw_law_j493_in53 k.2.1 N σ a0 a1 a2 a3 x4 = some r) (E : sm (fun s => hv_V k s.1 53 [some (.ref a0), some (.ref a1), some (.ref a2), some (.ref a3), some (.int s.2), none, none] []) (sm (fun s => hv_V k s 1143 [none, none, none, none, none, none, none] []) (fun z => hl_end k z.1 z.2)) r) : hv_V k σ 493 [some (.ref a0), some (.ref a1), some (.ref a2), some (.ref a3), some (.int x4), none, none] [] := by
  unfold f_Lw_law_j493_in53 at hf
  refine hv_goto (tgt := 1137) X d_Lw_law_493 (by decide) ?_
  exact w_Lw_law_j1137_in53 X hlt N σ a0 a1 a2 a3 x4  _ hf E
set_option maxHeartbeats 4000000 in
set_option maxRecDepth 100000 in
theorem w_Lw_law_j537_in53 {k : mk_T} (X : hv_X k b_Lw_law y_Lw_law.cls 7 12 312 (some .boolean) y_Lw_law.name) (hlt : k.1.2.1.stackTraces = false) (N : Nat) (σ : ho_H) (a0 : Nat) (a1 : Nat) (a2 : Nat) (a3 : Nat) (x4 : Int32)  (r : (ho_H × Int32) ⊕ ((ho_H) ⊕ (ho_H × Int32))) (hf : f_Lw_law_j537_in53 k.2.1 N σ a0 a1 a2 a3 x4 = some r) (E : sm (fun s => hv_V k s.1 53 [some (.ref a0), some (.ref a1), some (.ref a2), some (.ref a3), some (.int s.2), none, none] []) (sm (fun s => hv_V k s 1143 [none, none, none, none, none, none, none] []) (fun z => hl_end k z.1 z.2)) r) : hv_V k σ 537 [some (.ref a0), some (.ref a1), some (.ref a2), some (.ref a3), some (.int x4), none, none] [] := by
  unfold f_Lw_law_j537_in53 at hf
  refine hv_goto (tgt := 1137) X d_Lw_law_537 (by decide) ?_
  exact w_Lw_law_j1137_in53 X hlt N σ a0 a1 a2 a3 x4  _ hf E
set_option maxHeartbeats 4000000 in
set_option maxRecDepth 100000 in
theorem w_Lw_law_j605_in53 {k : mk_T} (X : hv_X k b_Lw_law y_Lw_law.cls 7 12 312 (some .boolean) y_Lw_law.name) (hlt : k.1.2.1.stackTraces = false) (N : Nat) (σ : ho_H) (a0 : Nat) (a1 : Nat) (a2 : Nat) (a3 : Nat) (x4 : Int32)  (r : (ho_H × Int32) ⊕ ((ho_H) ⊕ (ho_H × Int32))) (hf : f_Lw_law_j605_in53 k.2.1 N σ a0 a1 a2 a3 x4 = some r) (E : sm (fun s => hv_V k s.1 53 [some (.ref a0), some (.ref a1), some (.ref a2), some (.ref a3), some (.int s.2), none, none] []) (sm (fun s => hv_V k s 1143 [none, none, none, none, none, none, none] []) (fun z => hl_end k z.1 z.2)) r) : hv_V k σ 605 [some (.ref a0), some (.ref a1), some (.ref a2), some (.ref a3), some (.int x4), none, none] [] := by
  unfold f_Lw_law_j605_in53 at hf
  refine hv_goto (tgt := 1137) X d_Lw_law_605 (by decide) ?_
  exact w_Lw_law_j1137_in53 X hlt N σ a0 a1 a2 a3 x4  _ hf E
set_option maxHeartbeats 4000000 in
set_option maxRecDepth 100000 in
theorem w_Lw_law_j673_in53 {k : mk_T} (X : hv_X k b_Lw_law y_Lw_law.cls 7 12 312 (some .boolean) y_Lw_law.name) (hlt : k.1.2.1.stackTraces = false) (N : Nat) (σ : ho_H) (a0 : Nat) (a1 : Nat) (a2 : Nat) (a3 : Nat) (x4 : Int32)  (r : (ho_H × Int32) ⊕ ((ho_H) ⊕ (ho_H × Int32))) (hf : f_Lw_law_j673_in53 k.2.1 N σ a0 a1 a2 a3 x4 = some r) (E : sm (fun s => hv_V k s.1 53 [some (.ref a0), some (.ref a1), some (.ref a2), some (.ref a3), some (.int s.2), none, none] []) (sm (fun s => hv_V k s 1143 [none, none, none, none, none, none, none] []) (fun z => hl_end k z.1 z.2)) r) : hv_V k σ 673 [some (.ref a0), some (.ref a1), some (.ref a2), some (.ref a3), some (.int x4), none, none] [] := by
  unfold f_Lw_law_j673_in53 at hf
  refine hv_goto (tgt := 1137) X d_Lw_law_673 (by decide) ?_
  exact w_Lw_law_j1137_in53 X hlt N σ a0 a1 a2 a3 x4  _ hf E
set_option maxHeartbeats 4000000 in
set_option maxRecDepth 100000 in
theorem w_Lw_law_j789_in53 {k : mk_T} (X : hv_X k b_Lw_law y_Lw_law.cls 7 12 312 (some .boolean) y_Lw_law.name) (hlt : k.1.2.1.stackTraces = false) (N : Nat) (σ : ho_H) (a0 : Nat) (a1 : Nat) (a2 : Nat) (a3 : Nat) (x4 : Int32)  (r : (ho_H × Int32) ⊕ ((ho_H) ⊕ (ho_H × Int32))) (hf : f_Lw_law_j789_in53 k.2.1 N σ a0 a1 a2 a3 x4 = some r) (E : sm (fun s => hv_V k s.1 53 [some (.ref a0), some (.ref a1), some (.ref a2), some (.ref a3), some (.int s.2), none, none] []) (sm (fun s => hv_V k s 1143 [none, none, none, none, none, none, none] []) (fun z => hl_end k z.1 z.2)) r) : hv_V k σ 789 [some (.ref a0), some (.ref a1), some (.ref a2), some (.ref a3), some (.int x4), none, none] [] := by
  unfold f_Lw_law_j789_in53 at hf
  refine hv_goto (tgt := 1137) X d_Lw_law_789 (by decide) ?_
  exact w_Lw_law_j1137_in53 X hlt N σ a0 a1 a2 a3 x4  _ hf E
set_option maxHeartbeats 4000000 in
set_option maxRecDepth 100000 in
theorem w_Lw_law_j881_in53 {k : mk_T} (X : hv_X k b_Lw_law y_Lw_law.cls 7 12 312 (some .boolean) y_Lw_law.name) (hlt : k.1.2.1.stackTraces = false) (N : Nat) (σ : ho_H) (a0 : Nat) (a1 : Nat) (a2 : Nat) (a3 : Nat) (x4 : Int32)  (r : (ho_H × Int32) ⊕ ((ho_H) ⊕ (ho_H × Int32))) (hf : f_Lw_law_j881_in53 k.2.1 N σ a0 a1 a2 a3 x4 = some r) (E : sm (fun s => hv_V k s.1 53 [some (.ref a0), some (.ref a1), some (.ref a2), some (.ref a3), some (.int s.2), none, none] []) (sm (fun s => hv_V k s 1143 [none, none, none, none, none, none, none] []) (fun z => hl_end k z.1 z.2)) r) : hv_V k σ 881 [some (.ref a0), some (.ref a1), some (.ref a2), some (.ref a3), some (.int x4), none, none] [] := by
  unfold f_Lw_law_j881_in53 at hf
  refine hv_goto (tgt := 1137) X d_Lw_law_881 (by decide) ?_
  exact w_Lw_law_j1137_in53 X hlt N σ a0 a1 a2 a3 x4  _ hf E
set_option maxHeartbeats 4000000 in
set_option maxRecDepth 100000 in
theorem w_Lw_law_j949_in53 {k : mk_T} (X : hv_X k b_Lw_law y_Lw_law.cls 7 12 312 (some .boolean) y_Lw_law.name) (hlt : k.1.2.1.stackTraces = false) (N : Nat) (σ : ho_H) (a0 : Nat) (a1 : Nat) (a2 : Nat) (a3 : Nat) (x4 : Int32)  (r : (ho_H × Int32) ⊕ ((ho_H) ⊕ (ho_H × Int32))) (hf : f_Lw_law_j949_in53 k.2.1 N σ a0 a1 a2 a3 x4 = some r) (E : sm (fun s => hv_V k s.1 53 [some (.ref a0), some (.ref a1), some (.ref a2), some (.ref a3), some (.int s.2), none, none] []) (sm (fun s => hv_V k s 1143 [none, none, none, none, none, none, none] []) (fun z => hl_end k z.1 z.2)) r) : hv_V k σ 949 [some (.ref a0), some (.ref a1), some (.ref a2), some (.ref a3), some (.int x4), none, none] [] := by
  unfold f_Lw_law_j949_in53 at hf
  refine hv_goto (tgt := 1137) X d_Lw_law_949 (by decide) ?_
  exact w_Lw_law_j1137_in53 X hlt N σ a0 a1 a2 a3 x4  _ hf E
set_option maxHeartbeats 4000000 in
set_option maxRecDepth 100000 in
theorem w_Lw_law_j1029_in53 {k : mk_T} (X : hv_X k b_Lw_law y_Lw_law.cls 7 12 312 (some .boolean) y_Lw_law.name) (hlt : k.1.2.1.stackTraces = false) (N : Nat) (σ : ho_H) (a0 : Nat) (a1 : Nat) (a2 : Nat) (a3 : Nat) (x4 : Int32)  (r : (ho_H × Int32) ⊕ ((ho_H) ⊕ (ho_H × Int32))) (hf : f_Lw_law_j1029_in53 k.2.1 N σ a0 a1 a2 a3 x4 = some r) (E : sm (fun s => hv_V k s.1 53 [some (.ref a0), some (.ref a1), some (.ref a2), some (.ref a3), some (.int s.2), none, none] []) (sm (fun s => hv_V k s 1143 [none, none, none, none, none, none, none] []) (fun z => hl_end k z.1 z.2)) r) : hv_V k σ 1029 [some (.ref a0), some (.ref a1), some (.ref a2), some (.ref a3), some (.int x4), none, none] [] := by
  unfold f_Lw_law_j1029_in53 at hf
  refine hv_goto (tgt := 1137) X d_Lw_law_1029 (by decide) ?_
  exact w_Lw_law_j1137_in53 X hlt N σ a0 a1 a2 a3 x4  _ hf E
set_option maxHeartbeats 4000000 in
set_option maxRecDepth 100000 in
theorem w_Lw_law_j1109_in53 {k : mk_T} (X : hv_X k b_Lw_law y_Lw_law.cls 7 12 312 (some .boolean) y_Lw_law.name) (hlt : k.1.2.1.stackTraces = false) (N : Nat) (σ : ho_H) (a0 : Nat) (a1 : Nat) (a2 : Nat) (a3 : Nat) (x4 : Int32)  (r : (ho_H × Int32) ⊕ ((ho_H) ⊕ (ho_H × Int32))) (hf : f_Lw_law_j1109_in53 k.2.1 N σ a0 a1 a2 a3 x4 = some r) (E : sm (fun s => hv_V k s.1 53 [some (.ref a0), some (.ref a1), some (.ref a2), some (.ref a3), some (.int s.2), none, none] []) (sm (fun s => hv_V k s 1143 [none, none, none, none, none, none, none] []) (fun z => hl_end k z.1 z.2)) r) : hv_V k σ 1109 [some (.ref a0), some (.ref a1), some (.ref a2), some (.ref a3), some (.int x4), none, none] [] := by
  unfold f_Lw_law_j1109_in53 at hf
  refine hv_goto (tgt := 1137) X d_Lw_law_1109 (by decide) ?_
  exact w_Lw_law_j1137_in53 X hlt N σ a0 a1 a2 a3 x4  _ hf E
set_option maxHeartbeats 4000000 in
set_option maxRecDepth 100000 in
theorem w_Lw_law_l53 {k : mk_T} (X : hv_X k b_Lw_law y_Lw_law.cls 7 12 312 (some .boolean) y_Lw_law.name) (hlt : k.1.2.1.stackTraces = false) (N : Nat) (a0 : Nat) (a1 : Nat) (a2 : Nat) (a3 : Nat) (σ : ho_H) (x4 : Int32) (r : (ho_H × Int32) ⊕ ((ho_H) ⊕ (ho_H × Int32))) (hf : f_Lw_law_l53 k.2.1 N a0 a1 a2 a3 (σ, x4) = some r) (E : sm (fun s => hv_V k s.1 53 [some (.ref a0), some (.ref a1), some (.ref a2), some (.ref a3), some (.int s.2), none, none] []) (sm (fun s => hv_V k s 1143 [none, none, none, none, none, none, none] []) (fun z => hl_end k z.1 z.2)) r) : hv_V k σ 53 [some (.ref a0), some (.ref a1), some (.ref a2), some (.ref a3), some (.int x4), none, none] [] := by
  unfold f_Lw_law_l53 at hf
  try dsimp only at hf
  refine hv_iload (pn := 55) X d_Lw_law_53 ?_
  refine hv_aload_n (pn := 56) X d_Lw_law_55 ?_
  obtain ⟨v15, hv15, hf⟩ := bd_E hf
  refine hv_alenI (pn := 57) X d_Lw_law_56 hv15 ?_
  refine hv_bipush (pn := 59) (v := 6) X d_Lw_law_57 ?_
  refine hv_isub (pn := 60) X d_Lw_law_59 ?_
  refine hv_icmp_gt (pn := 63) (tgt := 1143) X d_Lw_law_60 (by decide) (fun hc => ?_) (fun hc => ?_)
  · rw [if_pos hc] at hf
    refine hv_drop (i := 0) (lo' := [none, some (.ref a1), some (.ref a2), some (.ref a3), some (.int x4), none, none]) ?_
    refine hv_drop (i := 1) (lo' := [none, none, some (.ref a2), some (.ref a3), some (.int x4), none, none]) ?_
    refine hv_drop (i := 2) (lo' := [none, none, none, some (.ref a3), some (.int x4), none, none]) ?_
    refine hv_drop (i := 3) (lo' := [none, none, none, none, some (.int x4), none, none]) ?_
    refine hv_drop (i := 4) (lo' := [none, none, none, none, none, none, none]) ?_
    cases hf
    exact E
  · rw [if_neg hc] at hf
    refine hv_aload_n (pn := 64) X d_Lw_law_63 ?_
    refine hv_iload (pn := 66) X d_Lw_law_64 ?_
    obtain ⟨v16, hv16, hf⟩ := bd_E hf
    refine hv_iald (pn := 67) X d_Lw_law_66 hv16 ?_
    refine hv_bipush (pn := 69) (v := 15) X d_Lw_law_67 ?_
    refine hv_iand (pn := 70) X d_Lw_law_69 ?_
    by_cases hs17_0 : (v16 &&& 15) = 0
    · rw [if_pos hs17_0] at hf
      refine hv_tsw_in (n := 0) (off := 74) (tgt := 144) X d_Lw_law_70 (by rw [hs17_0]; decide) (by decide) (by decide) (by decide) (by decide) ?_
      refine hv_aload_n (pn := 145) X d_Lw_law_144 ?_
      refine hv_aload_n (pn := 146) X d_Lw_law_145 ?_
      refine hv_iload (pn := 148) X d_Lw_law_146 ?_
      refine hv_iconst (pn := 149) (v := 1) X d_Lw_law_148 ?_
      refine hv_iadd (pn := 150) X d_Lw_law_149 ?_
      obtain ⟨v18, hv18, hf⟩ := bd_E hf
      refine hv_iald (pn := 151) X d_Lw_law_150 hv18 ?_
      refine hv_aload_n (pn := 152) X d_Lw_law_151 ?_
      refine hv_iload (pn := 154) X d_Lw_law_152 ?_
      refine hv_iconst (pn := 155) (v := 2) X d_Lw_law_154 ?_
      refine hv_iadd (pn := 156) X d_Lw_law_155 ?_
      obtain ⟨v19, hv19, hf⟩ := bd_E hf
      refine hv_iald (pn := 157) X d_Lw_law_156 hv19 ?_
      refine hv_aload_n (pn := 158) X d_Lw_law_157 ?_
      refine hv_iload (pn := 160) X d_Lw_law_158 ?_
      refine hv_iconst (pn := 161) (v := 3) X d_Lw_law_160 ?_
      refine hv_iadd (pn := 162) X d_Lw_law_161 ?_
      obtain ⟨v20, hv20, hf⟩ := bd_E hf
      refine hv_iald (pn := 163) X d_Lw_law_162 hv20 ?_
      refine hv_aload_n (pn := 164) X d_Lw_law_163 ?_
      refine hv_iload (pn := 166) X d_Lw_law_164 ?_
      refine hv_iconst (pn := 167) (v := 4) X d_Lw_law_166 ?_
      refine hv_iadd (pn := 168) X d_Lw_law_167 ?_
      obtain ⟨v21, hv21, hf⟩ := bd_E hf
      refine hv_iald (pn := 169) X d_Lw_law_168 hv21 ?_
      refine hv_aload_n (pn := 170) X d_Lw_law_169 ?_
      refine hv_iload (pn := 172) X d_Lw_law_170 ?_
      refine hv_iconst (pn := 173) (v := 5) X d_Lw_law_172 ?_
      refine hv_iadd (pn := 174) X d_Lw_law_173 ?_
      obtain ⟨v22, hv22, hf⟩ := bd_E hf
      refine hv_iald (pn := 175) X d_Lw_law_174 hv22 ?_
      refine hv_aload_n (pn := 176) X d_Lw_law_175 ?_
      obtain ⟨σ23, v24, hσ23, hf⟩ := bd2_E hf
      obtain ⟨hσ23, mσ23⟩ := ho_ck_E hσ23
      refine hw_callS (pn := 179) X d_Lw_law_176 (c_Lw_chain _ hlt _ N σ a1 v18 v19 v20 v21 v22 a3 _ _ hσ23) q_1_210 q_1_0 q_1_209 q_1_208 ⟨by decide, by decide⟩ ar_Lw_chain (by decide) (by decide) mσ23 (Nat.le_of_ble_eq_true rfl) ?_
      refine hv_istore (pn := 181) (i := 5) (lo' := [some (.ref a0), some (.ref a1), some (.ref a2), some (.ref a3), some (.int x4), some (.int v24), none]) X d_Lw_law_179 ?_
      refine hv_aload_n (pn := 182) X d_Lw_law_181 ?_
      refine hv_aload_n (pn := 183) X d_Lw_law_182 ?_
      refine hv_iload (pn := 185) X d_Lw_law_183 ?_
      refine hv_iconst (pn := 186) (v := 1) X d_Lw_law_185 ?_
      refine hv_iadd (pn := 187) X d_Lw_law_186 ?_
      obtain ⟨v25, hv25, hf⟩ := bd_E hf
      refine hv_iald (pn := 188) X d_Lw_law_187 hv25 ?_
      refine hv_aload_n (pn := 189) X d_Lw_law_188 ?_
      refine hv_iload (pn := 191) X d_Lw_law_189 ?_
      refine hv_iconst (pn := 192) (v := 2) X d_Lw_law_191 ?_
      refine hv_iadd (pn := 193) X d_Lw_law_192 ?_
      obtain ⟨v26, hv26, hf⟩ := bd_E hf
      refine hv_iald (pn := 194) X d_Lw_law_193 hv26 ?_
      refine hv_aload_n (pn := 195) X d_Lw_law_194 ?_
      refine hv_iload (pn := 197) X d_Lw_law_195 ?_
      refine hv_iconst (pn := 198) (v := 3) X d_Lw_law_197 ?_
      refine hv_iadd (pn := 199) X d_Lw_law_198 ?_
      obtain ⟨v27, hv27, hf⟩ := bd_E hf
      refine hv_iald (pn := 200) X d_Lw_law_199 hv27 ?_
      refine hv_aload_n (pn := 201) X d_Lw_law_200 ?_
      refine hv_iload (pn := 203) X d_Lw_law_201 ?_
      refine hv_iconst (pn := 204) (v := 4) X d_Lw_law_203 ?_
      refine hv_iadd (pn := 205) X d_Lw_law_204 ?_
      obtain ⟨v28, hv28, hf⟩ := bd_E hf
      refine hv_iald (pn := 206) X d_Lw_law_205 hv28 ?_
      refine hv_aload_n (pn := 207) X d_Lw_law_206 ?_
      refine hv_iload (pn := 209) X d_Lw_law_207 ?_
      refine hv_iconst (pn := 210) (v := 5) X d_Lw_law_209 ?_
      refine hv_iadd (pn := 211) X d_Lw_law_210 ?_
      obtain ⟨v29, hv29, hf⟩ := bd_E hf
      refine hv_iald (pn := 212) X d_Lw_law_211 hv29 ?_
      obtain ⟨_, hr30, hf⟩ := bd_E hf
      obtain ⟨σ31, v32, hσ31, hf⟩ := bd2_E hf
      obtain ⟨hσ31, mσ31⟩ := ho_ck_E hσ31
      refine hv_callV (pn := 215) X d_Lw_law_212 (c_Md_chain _ _ N σ23 a2 v25 v26 v27 v28 v29 _ _ hσ31) cs_Lw_81 q_4_238 rfl q_4_239 hr30 (by decide) (by decide) mσ31 (Nat.le_of_ble_eq_true rfl) ?_
      refine hv_istore (pn := 217) (i := 6) (lo' := [some (.ref a0), some (.ref a1), some (.ref a2), some (.ref a3), some (.int x4), some (.int v24), some (.int v32)]) X d_Lw_law_215 ?_
      refine hv_aload_n (pn := 218) X d_Lw_law_217 ?_
      obtain ⟨_, hr33, hf⟩ := bd_E hf
      obtain ⟨v34, hv34, hf⟩ := bd_E hf
      refine hv_callV (pn := 221) X d_Lw_law_218 (c_Md_thrown _ _ N σ31 a2 _ hv34) cs_Lw_82 q_4_234 rfl q_4_235 hr33 (by decide) (by decide) ⟨Nat.le_refl _, Nat.le_refl _⟩ (Nat.le_of_ble_eq_true rfl) ?_
      refine hv_iload (pn := 223) X d_Lw_law_221 ?_
      refine hv_icmp_eq (pn := 226) (tgt := 228) X d_Lw_law_223 (by decide) (fun hc => ?_) (fun hc => ?_)
      · rw [if_pos hc] at hf
        refine hv_iload (pn := 230) X d_Lw_law_228 ?_
        refine hv_if_ne (pn := 233) (tgt := 245) X d_Lw_law_230 (by decide) (fun hc => ?_) (fun hc => ?_)
        · rw [if_pos hc] at hf
          refine hv_drop (i := 5) (lo' := [some (.ref a0), some (.ref a1), some (.ref a2), some (.ref a3), some (.int x4), none, some (.int v32)]) ?_
          refine hv_drop (i := 6) (lo' := [some (.ref a0), some (.ref a1), some (.ref a2), some (.ref a3), some (.int x4), none, none]) ?_
          exact w_Lw_law_j245_in53 X hlt N σ31 a0 a1 a2 a3 x4  _ hf E
        · rw [if_neg hc] at hf
          refine hv_aload_n (pn := 234) X d_Lw_law_233 ?_
          refine hv_iconst (pn := 235) (v := 0) X d_Lw_law_234 ?_
          obtain ⟨v35, hv35, hf⟩ := bd_E hf
          refine hv_lald (pn := 236) X d_Lw_law_235 hv35 ?_
          refine hv_iload (pn := 238) X d_Lw_law_236 ?_
          refine hv_i2l (pn := 239) X d_Lw_law_238 ?_
          refine hv_lcmp (pn := 240) X d_Lw_law_239 ?_
          refine hv_if_eq (pn := 243) (tgt := 245) X d_Lw_law_240 (by decide) (fun hc => ?_) (fun hc => ?_)
          · rw [if_pos hc] at hf
            refine hv_drop (i := 5) (lo' := [some (.ref a0), some (.ref a1), some (.ref a2), some (.ref a3), some (.int x4), none, some (.int v32)]) ?_
            refine hv_drop (i := 6) (lo' := [some (.ref a0), some (.ref a1), some (.ref a2), some (.ref a3), some (.int x4), none, none]) ?_
            exact w_Lw_law_j245_in53 X hlt N σ31 a0 a1 a2 a3 x4  _ hf E
          · rw [if_neg hc] at hf
            refine hv_iconst (pn := 244) (v := 0) X d_Lw_law_243 ?_
            cases hf
            exact hl_ret X d_Lw_law_244 E
      · rw [if_neg hc] at hf
        refine hv_iconst (pn := 227) (v := 0) X d_Lw_law_226 ?_
        cases hf
        exact hl_ret X d_Lw_law_227 E
    · rw [if_neg hs17_0] at hf
      by_cases hs17_1 : (v16 &&& 15) = 1
      · rw [if_pos hs17_1] at hf
        refine hv_tsw_in (n := 1) (off := 178) (tgt := 248) X d_Lw_law_70 (by rw [hs17_1]; decide) (by decide) (by decide) (by decide) (by decide) ?_
        refine hv_aload_n (pn := 249) X d_Lw_law_248 ?_
        refine hv_aload_n (pn := 250) X d_Lw_law_249 ?_
        refine hv_iload (pn := 252) X d_Lw_law_250 ?_
        refine hv_iconst (pn := 253) (v := 1) X d_Lw_law_252 ?_
        refine hv_iadd (pn := 254) X d_Lw_law_253 ?_
        obtain ⟨v36, hv36, hf⟩ := bd_E hf
        refine hv_iald (pn := 255) X d_Lw_law_254 hv36 ?_
        refine hv_aload_n (pn := 256) X d_Lw_law_255 ?_
        obtain ⟨σ37, v38, hσ37, hf⟩ := bd2_E hf
        obtain ⟨hσ37, mσ37⟩ := ho_ck_E hσ37
        refine hw_callS (pn := 259) X d_Lw_law_256 (c_Lw_tick _ hlt _ N σ a1 v36 a3 _ _ hσ37) q_2_93 q_1_0 q_2_92 q_2_91 ⟨by decide, by decide⟩ ar_Lw_tick (by decide) (by decide) mσ37 (Nat.le_of_ble_eq_true rfl) ?_
        refine hv_istore (pn := 261) (i := 5) (lo' := [some (.ref a0), some (.ref a1), some (.ref a2), some (.ref a3), some (.int x4), some (.int v38), none]) X d_Lw_law_259 ?_
        refine hv_aload_n (pn := 262) X d_Lw_law_261 ?_
        refine hv_aload_n (pn := 263) X d_Lw_law_262 ?_
        refine hv_iload (pn := 265) X d_Lw_law_263 ?_
        refine hv_iconst (pn := 266) (v := 1) X d_Lw_law_265 ?_
        refine hv_iadd (pn := 267) X d_Lw_law_266 ?_
        obtain ⟨v39, hv39, hf⟩ := bd_E hf
        refine hv_iald (pn := 268) X d_Lw_law_267 hv39 ?_
        obtain ⟨_, hr40, hf⟩ := bd_E hf
        obtain ⟨σ41, v42, hσ41, hf⟩ := bd2_E hf
        obtain ⟨hσ41, mσ41⟩ := ho_ck_E hσ41
        refine hv_callV (pn := 271) X d_Lw_law_268 (c_Md_tick _ _ N σ37 a2 v39 _ _ hσ41) cs_Lw_88 q_5_28 rfl q_5_29 hr40 (by decide) (by decide) mσ41 (Nat.le_of_ble_eq_true rfl) ?_
        refine hv_istore (pn := 273) (i := 6) (lo' := [some (.ref a0), some (.ref a1), some (.ref a2), some (.ref a3), some (.int x4), some (.int v38), some (.int v42)]) X d_Lw_law_271 ?_
        refine hv_aload_n (pn := 274) X d_Lw_law_273 ?_
        obtain ⟨_, hr43, hf⟩ := bd_E hf
        obtain ⟨v44, hv44, hf⟩ := bd_E hf
        refine hv_callV (pn := 277) X d_Lw_law_274 (c_Md_thrown _ _ N σ41 a2 _ hv44) cs_Lw_82 q_4_234 rfl q_4_235 hr43 (by decide) (by decide) ⟨Nat.le_refl _, Nat.le_refl _⟩ (Nat.le_of_ble_eq_true rfl) ?_
        refine hv_iload (pn := 279) X d_Lw_law_277 ?_
        refine hv_icmp_eq (pn := 282) (tgt := 284) X d_Lw_law_279 (by decide) (fun hc => ?_) (fun hc => ?_)
        · rw [if_pos hc] at hf
          refine hv_iload (pn := 286) X d_Lw_law_284 ?_
          refine hv_if_ne (pn := 289) (tgt := 301) X d_Lw_law_286 (by decide) (fun hc => ?_) (fun hc => ?_)
          · rw [if_pos hc] at hf
            refine hv_drop (i := 5) (lo' := [some (.ref a0), some (.ref a1), some (.ref a2), some (.ref a3), some (.int x4), none, some (.int v42)]) ?_
            refine hv_drop (i := 6) (lo' := [some (.ref a0), some (.ref a1), some (.ref a2), some (.ref a3), some (.int x4), none, none]) ?_
            exact w_Lw_law_j301_in53 X hlt N σ41 a0 a1 a2 a3 x4  _ hf E
          · rw [if_neg hc] at hf
            refine hv_aload_n (pn := 290) X d_Lw_law_289 ?_
            refine hv_iconst (pn := 291) (v := 0) X d_Lw_law_290 ?_
            obtain ⟨v45, hv45, hf⟩ := bd_E hf
            refine hv_lald (pn := 292) X d_Lw_law_291 hv45 ?_
            refine hv_iload (pn := 294) X d_Lw_law_292 ?_
            refine hv_i2l (pn := 295) X d_Lw_law_294 ?_
            refine hv_lcmp (pn := 296) X d_Lw_law_295 ?_
            refine hv_if_eq (pn := 299) (tgt := 301) X d_Lw_law_296 (by decide) (fun hc => ?_) (fun hc => ?_)
            · rw [if_pos hc] at hf
              refine hv_drop (i := 5) (lo' := [some (.ref a0), some (.ref a1), some (.ref a2), some (.ref a3), some (.int x4), none, some (.int v42)]) ?_
              refine hv_drop (i := 6) (lo' := [some (.ref a0), some (.ref a1), some (.ref a2), some (.ref a3), some (.int x4), none, none]) ?_
              exact w_Lw_law_j301_in53 X hlt N σ41 a0 a1 a2 a3 x4  _ hf E
            · rw [if_neg hc] at hf
              refine hv_iconst (pn := 300) (v := 0) X d_Lw_law_299 ?_
              cases hf
              exact hl_ret X d_Lw_law_300 E
        · rw [if_neg hc] at hf
          refine hv_iconst (pn := 283) (v := 0) X d_Lw_law_282 ?_
          cases hf
          exact hl_ret X d_Lw_law_283 E
      · rw [if_neg hs17_1] at hf
        by_cases hs17_2 : (v16 &&& 15) = 2
        · rw [if_pos hs17_2] at hf
          refine hv_tsw_in (n := 2) (off := 234) (tgt := 304) X d_Lw_law_70 (by rw [hs17_2]; decide) (by decide) (by decide) (by decide) (by decide) ?_
          refine hv_aload_n (pn := 305) X d_Lw_law_304 ?_
          refine hv_aload_n (pn := 306) X d_Lw_law_305 ?_
          refine hv_iload (pn := 308) X d_Lw_law_306 ?_
          refine hv_iconst (pn := 309) (v := 1) X d_Lw_law_308 ?_
          refine hv_iadd (pn := 310) X d_Lw_law_309 ?_
          obtain ⟨v46, hv46, hf⟩ := bd_E hf
          refine hv_iald (pn := 311) X d_Lw_law_310 hv46 ?_
          refine hv_aload_n (pn := 312) X d_Lw_law_311 ?_
          refine hv_iload (pn := 314) X d_Lw_law_312 ?_
          refine hv_iconst (pn := 315) (v := 2) X d_Lw_law_314 ?_
          refine hv_iadd (pn := 316) X d_Lw_law_315 ?_
          obtain ⟨v47, hv47, hf⟩ := bd_E hf
          refine hv_iald (pn := 317) X d_Lw_law_316 hv47 ?_
          refine hv_aload_n (pn := 318) X d_Lw_law_317 ?_
          obtain ⟨σ48, v49, hσ48, hf⟩ := bd2_E hf
          obtain ⟨hσ48, mσ48⟩ := ho_ck_E hσ48
          refine hw_callS (pn := 321) X d_Lw_law_318 (c_Lw_load _ hlt _ N σ a1 v46 v47 a3 _ _ hσ48) q_2_117 q_1_0 q_2_116 q_2_115 ⟨by decide, by decide⟩ ar_Lw_load (by decide) (by decide) mσ48 (Nat.le_of_ble_eq_true rfl) ?_
          refine hv_istore (pn := 323) (i := 5) (lo' := [some (.ref a0), some (.ref a1), some (.ref a2), some (.ref a3), some (.int x4), some (.int v49), none]) X d_Lw_law_321 ?_
          refine hv_aload_n (pn := 324) X d_Lw_law_323 ?_
          refine hv_aload_n (pn := 325) X d_Lw_law_324 ?_
          refine hv_iload (pn := 327) X d_Lw_law_325 ?_
          refine hv_iconst (pn := 328) (v := 1) X d_Lw_law_327 ?_
          refine hv_iadd (pn := 329) X d_Lw_law_328 ?_
          obtain ⟨v50, hv50, hf⟩ := bd_E hf
          refine hv_iald (pn := 330) X d_Lw_law_329 hv50 ?_
          refine hv_aload_n (pn := 331) X d_Lw_law_330 ?_
          refine hv_iload (pn := 333) X d_Lw_law_331 ?_
          refine hv_iconst (pn := 334) (v := 2) X d_Lw_law_333 ?_
          refine hv_iadd (pn := 335) X d_Lw_law_334 ?_
          obtain ⟨v51, hv51, hf⟩ := bd_E hf
          refine hv_iald (pn := 336) X d_Lw_law_335 hv51 ?_
          obtain ⟨_, hr52, hf⟩ := bd_E hf
          obtain ⟨σ53, v54, hσ53, hf⟩ := bd2_E hf
          obtain ⟨hσ53, mσ53⟩ := ho_ck_E hσ53
          refine hv_callV (pn := 339) X d_Lw_law_336 (c_Md_load _ _ N σ48 a2 v50 v51 _ _ hσ53) cs_Lw_92 q_5_36 rfl q_5_37 hr52 (by decide) (by decide) mσ53 (Nat.le_of_ble_eq_true rfl) ?_
          refine hv_istore (pn := 341) (i := 6) (lo' := [some (.ref a0), some (.ref a1), some (.ref a2), some (.ref a3), some (.int x4), some (.int v49), some (.int v54)]) X d_Lw_law_339 ?_
          refine hv_aload_n (pn := 342) X d_Lw_law_341 ?_
          obtain ⟨_, hr55, hf⟩ := bd_E hf
          obtain ⟨v56, hv56, hf⟩ := bd_E hf
          refine hv_callV (pn := 345) X d_Lw_law_342 (c_Md_thrown _ _ N σ53 a2 _ hv56) cs_Lw_82 q_4_234 rfl q_4_235 hr55 (by decide) (by decide) ⟨Nat.le_refl _, Nat.le_refl _⟩ (Nat.le_of_ble_eq_true rfl) ?_
          refine hv_iload (pn := 347) X d_Lw_law_345 ?_
          refine hv_icmp_eq (pn := 350) (tgt := 352) X d_Lw_law_347 (by decide) (fun hc => ?_) (fun hc => ?_)
          · rw [if_pos hc] at hf
            refine hv_iload (pn := 354) X d_Lw_law_352 ?_
            refine hv_if_ne (pn := 357) (tgt := 369) X d_Lw_law_354 (by decide) (fun hc => ?_) (fun hc => ?_)
            · rw [if_pos hc] at hf
              refine hv_drop (i := 5) (lo' := [some (.ref a0), some (.ref a1), some (.ref a2), some (.ref a3), some (.int x4), none, some (.int v54)]) ?_
              refine hv_drop (i := 6) (lo' := [some (.ref a0), some (.ref a1), some (.ref a2), some (.ref a3), some (.int x4), none, none]) ?_
              exact w_Lw_law_j369_in53 X hlt N σ53 a0 a1 a2 a3 x4  _ hf E
            · rw [if_neg hc] at hf
              refine hv_aload_n (pn := 358) X d_Lw_law_357 ?_
              refine hv_iconst (pn := 359) (v := 0) X d_Lw_law_358 ?_
              obtain ⟨v57, hv57, hf⟩ := bd_E hf
              refine hv_lald (pn := 360) X d_Lw_law_359 hv57 ?_
              refine hv_iload (pn := 362) X d_Lw_law_360 ?_
              refine hv_i2l (pn := 363) X d_Lw_law_362 ?_
              refine hv_lcmp (pn := 364) X d_Lw_law_363 ?_
              refine hv_if_eq (pn := 367) (tgt := 369) X d_Lw_law_364 (by decide) (fun hc => ?_) (fun hc => ?_)
              · rw [if_pos hc] at hf
                refine hv_drop (i := 5) (lo' := [some (.ref a0), some (.ref a1), some (.ref a2), some (.ref a3), some (.int x4), none, some (.int v54)]) ?_
                refine hv_drop (i := 6) (lo' := [some (.ref a0), some (.ref a1), some (.ref a2), some (.ref a3), some (.int x4), none, none]) ?_
                exact w_Lw_law_j369_in53 X hlt N σ53 a0 a1 a2 a3 x4  _ hf E
              · rw [if_neg hc] at hf
                refine hv_iconst (pn := 368) (v := 0) X d_Lw_law_367 ?_
                cases hf
                exact hl_ret X d_Lw_law_368 E
          · rw [if_neg hc] at hf
            refine hv_iconst (pn := 351) (v := 0) X d_Lw_law_350 ?_
            cases hf
            exact hl_ret X d_Lw_law_351 E
        · rw [if_neg hs17_2] at hf
          by_cases hs17_3 : (v16 &&& 15) = 3
          · rw [if_pos hs17_3] at hf
            refine hv_tsw_in (n := 3) (off := 302) (tgt := 372) X d_Lw_law_70 (by rw [hs17_3]; decide) (by decide) (by decide) (by decide) (by decide) ?_
            refine hv_aload_n (pn := 373) X d_Lw_law_372 ?_
            refine hv_aload_n (pn := 374) X d_Lw_law_373 ?_
            refine hv_iload (pn := 376) X d_Lw_law_374 ?_
            refine hv_iconst (pn := 377) (v := 1) X d_Lw_law_376 ?_
            refine hv_iadd (pn := 378) X d_Lw_law_377 ?_
            obtain ⟨v58, hv58, hf⟩ := bd_E hf
            refine hv_iald (pn := 379) X d_Lw_law_378 hv58 ?_
            refine hv_aload_n (pn := 380) X d_Lw_law_379 ?_
            refine hv_iload (pn := 382) X d_Lw_law_380 ?_
            refine hv_iconst (pn := 383) (v := 2) X d_Lw_law_382 ?_
            refine hv_iadd (pn := 384) X d_Lw_law_383 ?_
            obtain ⟨v59, hv59, hf⟩ := bd_E hf
            refine hv_iald (pn := 385) X d_Lw_law_384 hv59 ?_
            refine hv_aload_n (pn := 386) X d_Lw_law_385 ?_
            obtain ⟨σ60, v61, hσ60, hf⟩ := bd2_E hf
            obtain ⟨hσ60, mσ60⟩ := ho_ck_E hσ60
            refine hw_callS (pn := 389) X d_Lw_law_386 (c_Lw_digest _ hlt _ N σ a1 v58 v59 a3 _ _ hσ60) q_2_140 q_1_0 q_2_139 q_2_138 ⟨by decide, by decide⟩ ar_Lw_digest (by decide) (by decide) mσ60 (Nat.le_of_ble_eq_true rfl) ?_
            refine hv_istore (pn := 391) (i := 5) (lo' := [some (.ref a0), some (.ref a1), some (.ref a2), some (.ref a3), some (.int x4), some (.int v61), none]) X d_Lw_law_389 ?_
            refine hv_aload_n (pn := 392) X d_Lw_law_391 ?_
            refine hv_aload_n (pn := 393) X d_Lw_law_392 ?_
            refine hv_iload (pn := 395) X d_Lw_law_393 ?_
            refine hv_iconst (pn := 396) (v := 1) X d_Lw_law_395 ?_
            refine hv_iadd (pn := 397) X d_Lw_law_396 ?_
            obtain ⟨v62, hv62, hf⟩ := bd_E hf
            refine hv_iald (pn := 398) X d_Lw_law_397 hv62 ?_
            refine hv_aload_n (pn := 399) X d_Lw_law_398 ?_
            refine hv_iload (pn := 401) X d_Lw_law_399 ?_
            refine hv_iconst (pn := 402) (v := 2) X d_Lw_law_401 ?_
            refine hv_iadd (pn := 403) X d_Lw_law_402 ?_
            obtain ⟨v63, hv63, hf⟩ := bd_E hf
            refine hv_iald (pn := 404) X d_Lw_law_403 hv63 ?_
            obtain ⟨_, hr64, hf⟩ := bd_E hf
            obtain ⟨σ65, v66, hσ65, hf⟩ := bd2_E hf
            obtain ⟨hσ65, mσ65⟩ := ho_ck_E hσ65
            refine hv_callV (pn := 407) X d_Lw_law_404 (c_Md_digest _ _ N σ60 a2 v62 v63 _ _ hσ65) cs_Lw_95 q_5_40 rfl q_5_41 hr64 (by decide) (by decide) mσ65 (Nat.le_of_ble_eq_true rfl) ?_
            refine hv_istore (pn := 409) (i := 6) (lo' := [some (.ref a0), some (.ref a1), some (.ref a2), some (.ref a3), some (.int x4), some (.int v61), some (.int v66)]) X d_Lw_law_407 ?_
            refine hv_aload_n (pn := 410) X d_Lw_law_409 ?_
            obtain ⟨_, hr67, hf⟩ := bd_E hf
            obtain ⟨v68, hv68, hf⟩ := bd_E hf
            refine hv_callV (pn := 413) X d_Lw_law_410 (c_Md_thrown _ _ N σ65 a2 _ hv68) cs_Lw_82 q_4_234 rfl q_4_235 hr67 (by decide) (by decide) ⟨Nat.le_refl _, Nat.le_refl _⟩ (Nat.le_of_ble_eq_true rfl) ?_
            refine hv_iload (pn := 415) X d_Lw_law_413 ?_
            refine hv_icmp_eq (pn := 418) (tgt := 420) X d_Lw_law_415 (by decide) (fun hc => ?_) (fun hc => ?_)
            · rw [if_pos hc] at hf
              refine hv_iload (pn := 422) X d_Lw_law_420 ?_
              refine hv_if_ne (pn := 425) (tgt := 437) X d_Lw_law_422 (by decide) (fun hc => ?_) (fun hc => ?_)
              · rw [if_pos hc] at hf
                refine hv_drop (i := 5) (lo' := [some (.ref a0), some (.ref a1), some (.ref a2), some (.ref a3), some (.int x4), none, some (.int v66)]) ?_
                refine hv_drop (i := 6) (lo' := [some (.ref a0), some (.ref a1), some (.ref a2), some (.ref a3), some (.int x4), none, none]) ?_
                exact w_Lw_law_j437_in53 X hlt N σ65 a0 a1 a2 a3 x4  _ hf E
              · rw [if_neg hc] at hf
                refine hv_aload_n (pn := 426) X d_Lw_law_425 ?_
                refine hv_iconst (pn := 427) (v := 0) X d_Lw_law_426 ?_
                obtain ⟨v69, hv69, hf⟩ := bd_E hf
                refine hv_lald (pn := 428) X d_Lw_law_427 hv69 ?_
                refine hv_iload (pn := 430) X d_Lw_law_428 ?_
                refine hv_i2l (pn := 431) X d_Lw_law_430 ?_
                refine hv_lcmp (pn := 432) X d_Lw_law_431 ?_
                refine hv_if_eq (pn := 435) (tgt := 437) X d_Lw_law_432 (by decide) (fun hc => ?_) (fun hc => ?_)
                · rw [if_pos hc] at hf
                  refine hv_drop (i := 5) (lo' := [some (.ref a0), some (.ref a1), some (.ref a2), some (.ref a3), some (.int x4), none, some (.int v66)]) ?_
                  refine hv_drop (i := 6) (lo' := [some (.ref a0), some (.ref a1), some (.ref a2), some (.ref a3), some (.int x4), none, none]) ?_
                  exact w_Lw_law_j437_in53 X hlt N σ65 a0 a1 a2 a3 x4  _ hf E
                · rw [if_neg hc] at hf
                  refine hv_iconst (pn := 436) (v := 0) X d_Lw_law_435 ?_
                  cases hf
                  exact hl_ret X d_Lw_law_436 E
            · rw [if_neg hc] at hf
              refine hv_iconst (pn := 419) (v := 0) X d_Lw_law_418 ?_
              cases hf
              exact hl_ret X d_Lw_law_419 E
          · rw [if_neg hs17_3] at hf
            by_cases hs17_4 : (v16 &&& 15) = 4
            · rw [if_pos hs17_4] at hf
              refine hv_tsw_in (n := 4) (off := 370) (tgt := 440) X d_Lw_law_70 (by rw [hs17_4]; decide) (by decide) (by decide) (by decide) (by decide) ?_
              refine hv_aload_n (pn := 441) X d_Lw_law_440 ?_
              refine hv_aload_n (pn := 442) X d_Lw_law_441 ?_
              refine hv_iload (pn := 444) X d_Lw_law_442 ?_
              refine hv_iconst (pn := 445) (v := 1) X d_Lw_law_444 ?_
              refine hv_iadd (pn := 446) X d_Lw_law_445 ?_
              obtain ⟨v70, hv70, hf⟩ := bd_E hf
              refine hv_iald (pn := 447) X d_Lw_law_446 hv70 ?_
              refine hv_aload_n (pn := 448) X d_Lw_law_447 ?_
              obtain ⟨σ71, v72, hσ71, hf⟩ := bd2_E hf
              obtain ⟨hσ71, mσ71⟩ := ho_ck_E hσ71
              refine hw_callS (pn := 451) X d_Lw_law_448 (c_Lw_send _ hlt _ N σ a1 v70 a3 _ _ hσ71) q_2_153 q_1_0 q_2_152 q_2_151 ⟨by decide, by decide⟩ ar_Lw_send (by decide) (by decide) mσ71 (Nat.le_of_ble_eq_true rfl) ?_
              refine hv_istore (pn := 453) (i := 5) (lo' := [some (.ref a0), some (.ref a1), some (.ref a2), some (.ref a3), some (.int x4), some (.int v72), none]) X d_Lw_law_451 ?_
              refine hv_aload_n (pn := 454) X d_Lw_law_453 ?_
              refine hv_aload_n (pn := 455) X d_Lw_law_454 ?_
              refine hv_iload (pn := 457) X d_Lw_law_455 ?_
              refine hv_iconst (pn := 458) (v := 1) X d_Lw_law_457 ?_
              refine hv_iadd (pn := 459) X d_Lw_law_458 ?_
              obtain ⟨v73, hv73, hf⟩ := bd_E hf
              refine hv_iald (pn := 460) X d_Lw_law_459 hv73 ?_
              obtain ⟨_, hr74, hf⟩ := bd_E hf
              obtain ⟨σ75, v76, hσ75, hf⟩ := bd2_E hf
              obtain ⟨hσ75, mσ75⟩ := ho_ck_E hσ75
              refine hv_callV (pn := 463) X d_Lw_law_460 (c_Md_send _ _ N σ71 a2 v73 _ _ hσ75) cs_Lw_98 q_5_44 rfl q_5_45 hr74 (by decide) (by decide) mσ75 (Nat.le_of_ble_eq_true rfl) ?_
              refine hv_istore (pn := 465) (i := 6) (lo' := [some (.ref a0), some (.ref a1), some (.ref a2), some (.ref a3), some (.int x4), some (.int v72), some (.int v76)]) X d_Lw_law_463 ?_
              refine hv_aload_n (pn := 466) X d_Lw_law_465 ?_
              obtain ⟨_, hr77, hf⟩ := bd_E hf
              obtain ⟨v78, hv78, hf⟩ := bd_E hf
              refine hv_callV (pn := 469) X d_Lw_law_466 (c_Md_thrown _ _ N σ75 a2 _ hv78) cs_Lw_82 q_4_234 rfl q_4_235 hr77 (by decide) (by decide) ⟨Nat.le_refl _, Nat.le_refl _⟩ (Nat.le_of_ble_eq_true rfl) ?_
              refine hv_iload (pn := 471) X d_Lw_law_469 ?_
              refine hv_icmp_eq (pn := 474) (tgt := 476) X d_Lw_law_471 (by decide) (fun hc => ?_) (fun hc => ?_)
              · rw [if_pos hc] at hf
                refine hv_iload (pn := 478) X d_Lw_law_476 ?_
                refine hv_if_ne (pn := 481) (tgt := 493) X d_Lw_law_478 (by decide) (fun hc => ?_) (fun hc => ?_)
                · rw [if_pos hc] at hf
                  refine hv_drop (i := 5) (lo' := [some (.ref a0), some (.ref a1), some (.ref a2), some (.ref a3), some (.int x4), none, some (.int v76)]) ?_
                  refine hv_drop (i := 6) (lo' := [some (.ref a0), some (.ref a1), some (.ref a2), some (.ref a3), some (.int x4), none, none]) ?_
                  exact w_Lw_law_j493_in53 X hlt N σ75 a0 a1 a2 a3 x4  _ hf E
                · rw [if_neg hc] at hf
                  refine hv_aload_n (pn := 482) X d_Lw_law_481 ?_
                  refine hv_iconst (pn := 483) (v := 0) X d_Lw_law_482 ?_
                  obtain ⟨v79, hv79, hf⟩ := bd_E hf
                  refine hv_lald (pn := 484) X d_Lw_law_483 hv79 ?_
                  refine hv_iload (pn := 486) X d_Lw_law_484 ?_
                  refine hv_i2l (pn := 487) X d_Lw_law_486 ?_
                  refine hv_lcmp (pn := 488) X d_Lw_law_487 ?_
                  refine hv_if_eq (pn := 491) (tgt := 493) X d_Lw_law_488 (by decide) (fun hc => ?_) (fun hc => ?_)
                  · rw [if_pos hc] at hf
                    refine hv_drop (i := 5) (lo' := [some (.ref a0), some (.ref a1), some (.ref a2), some (.ref a3), some (.int x4), none, some (.int v76)]) ?_
                    refine hv_drop (i := 6) (lo' := [some (.ref a0), some (.ref a1), some (.ref a2), some (.ref a3), some (.int x4), none, none]) ?_
                    exact w_Lw_law_j493_in53 X hlt N σ75 a0 a1 a2 a3 x4  _ hf E
                  · rw [if_neg hc] at hf
                    refine hv_iconst (pn := 492) (v := 0) X d_Lw_law_491 ?_
                    cases hf
                    exact hl_ret X d_Lw_law_492 E
              · rw [if_neg hc] at hf
                refine hv_iconst (pn := 475) (v := 0) X d_Lw_law_474 ?_
                cases hf
                exact hl_ret X d_Lw_law_475 E
            · rw [if_neg hs17_4] at hf
              by_cases hs17_5 : (v16 &&& 15) = 5
              · rw [if_pos hs17_5] at hf
                refine hv_tsw_in (n := 5) (off := 426) (tgt := 496) X d_Lw_law_70 (by rw [hs17_5]; decide) (by decide) (by decide) (by decide) (by decide) ?_
                refine hv_aload_n (pn := 497) X d_Lw_law_496 ?_
                refine hv_aload_n (pn := 498) X d_Lw_law_497 ?_
                obtain ⟨σ80, v81, hσ80, hf⟩ := bd2_E hf
                obtain ⟨hσ80, mσ80⟩ := ho_ck_E hσ80
                refine hw_callS (pn := 501) X d_Lw_law_498 (c_Lw_root _ hlt _ N σ a1 a3 _ _ hσ80) q_3_56 q_1_0 q_3_55 q_3_54 ⟨by decide, by decide⟩ ar_Lw_root (by decide) (by decide) mσ80 (Nat.le_of_ble_eq_true rfl) ?_
                refine hv_istore (pn := 503) (i := 5) (lo' := [some (.ref a0), some (.ref a1), some (.ref a2), some (.ref a3), some (.int x4), some (.int v81), none]) X d_Lw_law_501 ?_
                refine hv_aload_n (pn := 504) X d_Lw_law_503 ?_
                obtain ⟨_, hr82, hf⟩ := bd_E hf
                obtain ⟨σ83, v84, hσ83, hf⟩ := bd2_E hf
                obtain ⟨hσ83, mσ83⟩ := ho_ck_E hσ83
                refine hv_callV (pn := 507) X d_Lw_law_504 (c_Md_root _ _ N σ80 a2 _ _ hσ83) cs_Lw_102 q_5_67 rfl q_5_68 hr82 (by decide) (by decide) mσ83 (Nat.le_of_ble_eq_true rfl) ?_
                refine hv_istore (pn := 509) (i := 6) (lo' := [some (.ref a0), some (.ref a1), some (.ref a2), some (.ref a3), some (.int x4), some (.int v81), some (.int v84)]) X d_Lw_law_507 ?_
                refine hv_aload_n (pn := 510) X d_Lw_law_509 ?_
                obtain ⟨_, hr85, hf⟩ := bd_E hf
                obtain ⟨v86, hv86, hf⟩ := bd_E hf
                refine hv_callV (pn := 513) X d_Lw_law_510 (c_Md_thrown _ _ N σ83 a2 _ hv86) cs_Lw_82 q_4_234 rfl q_4_235 hr85 (by decide) (by decide) ⟨Nat.le_refl _, Nat.le_refl _⟩ (Nat.le_of_ble_eq_true rfl) ?_
                refine hv_iload (pn := 515) X d_Lw_law_513 ?_
                refine hv_icmp_eq (pn := 518) (tgt := 520) X d_Lw_law_515 (by decide) (fun hc => ?_) (fun hc => ?_)
                · rw [if_pos hc] at hf
                  refine hv_iload (pn := 522) X d_Lw_law_520 ?_
                  refine hv_if_ne (pn := 525) (tgt := 537) X d_Lw_law_522 (by decide) (fun hc => ?_) (fun hc => ?_)
                  · rw [if_pos hc] at hf
                    refine hv_drop (i := 5) (lo' := [some (.ref a0), some (.ref a1), some (.ref a2), some (.ref a3), some (.int x4), none, some (.int v84)]) ?_
                    refine hv_drop (i := 6) (lo' := [some (.ref a0), some (.ref a1), some (.ref a2), some (.ref a3), some (.int x4), none, none]) ?_
                    exact w_Lw_law_j537_in53 X hlt N σ83 a0 a1 a2 a3 x4  _ hf E
                  · rw [if_neg hc] at hf
                    refine hv_aload_n (pn := 526) X d_Lw_law_525 ?_
                    refine hv_iconst (pn := 527) (v := 0) X d_Lw_law_526 ?_
                    obtain ⟨v87, hv87, hf⟩ := bd_E hf
                    refine hv_lald (pn := 528) X d_Lw_law_527 hv87 ?_
                    refine hv_iload (pn := 530) X d_Lw_law_528 ?_
                    refine hv_i2l (pn := 531) X d_Lw_law_530 ?_
                    refine hv_lcmp (pn := 532) X d_Lw_law_531 ?_
                    refine hv_if_eq (pn := 535) (tgt := 537) X d_Lw_law_532 (by decide) (fun hc => ?_) (fun hc => ?_)
                    · rw [if_pos hc] at hf
                      refine hv_drop (i := 5) (lo' := [some (.ref a0), some (.ref a1), some (.ref a2), some (.ref a3), some (.int x4), none, some (.int v84)]) ?_
                      refine hv_drop (i := 6) (lo' := [some (.ref a0), some (.ref a1), some (.ref a2), some (.ref a3), some (.int x4), none, none]) ?_
                      exact w_Lw_law_j537_in53 X hlt N σ83 a0 a1 a2 a3 x4  _ hf E
                    · rw [if_neg hc] at hf
                      refine hv_iconst (pn := 536) (v := 0) X d_Lw_law_535 ?_
                      cases hf
                      exact hl_ret X d_Lw_law_536 E
                · rw [if_neg hc] at hf
                  refine hv_iconst (pn := 519) (v := 0) X d_Lw_law_518 ?_
                  cases hf
                  exact hl_ret X d_Lw_law_519 E
              · rw [if_neg hs17_5] at hf
                by_cases hs17_6 : (v16 &&& 15) = 6
                · rw [if_pos hs17_6] at hf
                  refine hv_tsw_in (n := 6) (off := 470) (tgt := 540) X d_Lw_law_70 (by rw [hs17_6]; decide) (by decide) (by decide) (by decide) (by decide) ?_
                  refine hv_aload_n (pn := 541) X d_Lw_law_540 ?_
                  refine hv_aload_n (pn := 542) X d_Lw_law_541 ?_
                  refine hv_iload (pn := 544) X d_Lw_law_542 ?_
                  refine hv_iconst (pn := 545) (v := 1) X d_Lw_law_544 ?_
                  refine hv_iadd (pn := 546) X d_Lw_law_545 ?_
                  obtain ⟨v88, hv88, hf⟩ := bd_E hf
                  refine hv_iald (pn := 547) X d_Lw_law_546 hv88 ?_
                  refine hv_aload_n (pn := 548) X d_Lw_law_547 ?_
                  refine hv_iload (pn := 550) X d_Lw_law_548 ?_
                  refine hv_iconst (pn := 551) (v := 2) X d_Lw_law_550 ?_
                  refine hv_iadd (pn := 552) X d_Lw_law_551 ?_
                  obtain ⟨v89, hv89, hf⟩ := bd_E hf
                  refine hv_iald (pn := 553) X d_Lw_law_552 hv89 ?_
                  refine hv_aload_n (pn := 554) X d_Lw_law_553 ?_
                  obtain ⟨σ90, v91, hσ90, hf⟩ := bd2_E hf
                  obtain ⟨hσ90, mσ90⟩ := ho_ck_E hσ90
                  refine hw_callS (pn := 557) X d_Lw_law_554 (c_Lw_packet _ hlt _ N σ a1 v88 v89 a3 _ _ hσ90) q_3_63 q_1_0 q_3_62 q_3_61 ⟨by decide, by decide⟩ ar_Lw_packet (by decide) (by decide) mσ90 (Nat.le_of_ble_eq_true rfl) ?_
                  refine hv_istore (pn := 559) (i := 5) (lo' := [some (.ref a0), some (.ref a1), some (.ref a2), some (.ref a3), some (.int x4), some (.int v91), none]) X d_Lw_law_557 ?_
                  refine hv_aload_n (pn := 560) X d_Lw_law_559 ?_
                  refine hv_aload_n (pn := 561) X d_Lw_law_560 ?_
                  refine hv_iload (pn := 563) X d_Lw_law_561 ?_
                  refine hv_iconst (pn := 564) (v := 1) X d_Lw_law_563 ?_
                  refine hv_iadd (pn := 565) X d_Lw_law_564 ?_
                  obtain ⟨v92, hv92, hf⟩ := bd_E hf
                  refine hv_iald (pn := 566) X d_Lw_law_565 hv92 ?_
                  refine hv_aload_n (pn := 567) X d_Lw_law_566 ?_
                  refine hv_iload (pn := 569) X d_Lw_law_567 ?_
                  refine hv_iconst (pn := 570) (v := 2) X d_Lw_law_569 ?_
                  refine hv_iadd (pn := 571) X d_Lw_law_570 ?_
                  obtain ⟨v93, hv93, hf⟩ := bd_E hf
                  refine hv_iald (pn := 572) X d_Lw_law_571 hv93 ?_
                  obtain ⟨_, hr94, hf⟩ := bd_E hf
                  obtain ⟨σ95, v96, hσ95, hf⟩ := bd2_E hf
                  obtain ⟨hσ95, mσ95⟩ := ho_ck_E hσ95
                  refine hv_callV (pn := 575) X d_Lw_law_572 (c_Md_packet _ _ N σ90 a2 v92 v93 _ _ hσ95) cs_Lw_105 q_5_71 rfl q_5_72 hr94 (by decide) (by decide) mσ95 (Nat.le_of_ble_eq_true rfl) ?_
                  refine hv_istore (pn := 577) (i := 6) (lo' := [some (.ref a0), some (.ref a1), some (.ref a2), some (.ref a3), some (.int x4), some (.int v91), some (.int v96)]) X d_Lw_law_575 ?_
                  refine hv_aload_n (pn := 578) X d_Lw_law_577 ?_
                  obtain ⟨_, hr97, hf⟩ := bd_E hf
                  obtain ⟨v98, hv98, hf⟩ := bd_E hf
                  refine hv_callV (pn := 581) X d_Lw_law_578 (c_Md_thrown _ _ N σ95 a2 _ hv98) cs_Lw_82 q_4_234 rfl q_4_235 hr97 (by decide) (by decide) ⟨Nat.le_refl _, Nat.le_refl _⟩ (Nat.le_of_ble_eq_true rfl) ?_
                  refine hv_iload (pn := 583) X d_Lw_law_581 ?_
                  refine hv_icmp_eq (pn := 586) (tgt := 588) X d_Lw_law_583 (by decide) (fun hc => ?_) (fun hc => ?_)
                  · rw [if_pos hc] at hf
                    refine hv_iload (pn := 590) X d_Lw_law_588 ?_
                    refine hv_if_ne (pn := 593) (tgt := 605) X d_Lw_law_590 (by decide) (fun hc => ?_) (fun hc => ?_)
                    · rw [if_pos hc] at hf
                      refine hv_drop (i := 5) (lo' := [some (.ref a0), some (.ref a1), some (.ref a2), some (.ref a3), some (.int x4), none, some (.int v96)]) ?_
                      refine hv_drop (i := 6) (lo' := [some (.ref a0), some (.ref a1), some (.ref a2), some (.ref a3), some (.int x4), none, none]) ?_
                      exact w_Lw_law_j605_in53 X hlt N σ95 a0 a1 a2 a3 x4  _ hf E
                    · rw [if_neg hc] at hf
                      refine hv_aload_n (pn := 594) X d_Lw_law_593 ?_
                      refine hv_iconst (pn := 595) (v := 0) X d_Lw_law_594 ?_
                      obtain ⟨v99, hv99, hf⟩ := bd_E hf
                      refine hv_lald (pn := 596) X d_Lw_law_595 hv99 ?_
                      refine hv_iload (pn := 598) X d_Lw_law_596 ?_
                      refine hv_i2l (pn := 599) X d_Lw_law_598 ?_
                      refine hv_lcmp (pn := 600) X d_Lw_law_599 ?_
                      refine hv_if_eq (pn := 603) (tgt := 605) X d_Lw_law_600 (by decide) (fun hc => ?_) (fun hc => ?_)
                      · rw [if_pos hc] at hf
                        refine hv_drop (i := 5) (lo' := [some (.ref a0), some (.ref a1), some (.ref a2), some (.ref a3), some (.int x4), none, some (.int v96)]) ?_
                        refine hv_drop (i := 6) (lo' := [some (.ref a0), some (.ref a1), some (.ref a2), some (.ref a3), some (.int x4), none, none]) ?_
                        exact w_Lw_law_j605_in53 X hlt N σ95 a0 a1 a2 a3 x4  _ hf E
                      · rw [if_neg hc] at hf
                        refine hv_iconst (pn := 604) (v := 0) X d_Lw_law_603 ?_
                        cases hf
                        exact hl_ret X d_Lw_law_604 E
                  · rw [if_neg hc] at hf
                    refine hv_iconst (pn := 587) (v := 0) X d_Lw_law_586 ?_
                    cases hf
                    exact hl_ret X d_Lw_law_587 E
                · rw [if_neg hs17_6] at hf
                  by_cases hs17_7 : (v16 &&& 15) = 7
                  · rw [if_pos hs17_7] at hf
                    refine hv_tsw_in (n := 7) (off := 538) (tgt := 608) X d_Lw_law_70 (by rw [hs17_7]; decide) (by decide) (by decide) (by decide) (by decide) ?_
                    refine hv_aload_n (pn := 609) X d_Lw_law_608 ?_
                    refine hv_aload_n (pn := 610) X d_Lw_law_609 ?_
                    refine hv_iload (pn := 612) X d_Lw_law_610 ?_
                    refine hv_iconst (pn := 613) (v := 1) X d_Lw_law_612 ?_
                    refine hv_iadd (pn := 614) X d_Lw_law_613 ?_
                    obtain ⟨v100, hv100, hf⟩ := bd_E hf
                    refine hv_iald (pn := 615) X d_Lw_law_614 hv100 ?_
                    refine hv_aload_n (pn := 616) X d_Lw_law_615 ?_
                    refine hv_iload (pn := 618) X d_Lw_law_616 ?_
                    refine hv_iconst (pn := 619) (v := 2) X d_Lw_law_618 ?_
                    refine hv_iadd (pn := 620) X d_Lw_law_619 ?_
                    obtain ⟨v101, hv101, hf⟩ := bd_E hf
                    refine hv_iald (pn := 621) X d_Lw_law_620 hv101 ?_
                    refine hv_aload_n (pn := 622) X d_Lw_law_621 ?_
                    obtain ⟨σ102, v103, hσ102, hf⟩ := bd2_E hf
                    obtain ⟨hσ102, mσ102⟩ := ho_ck_E hσ102
                    refine hw_callS (pn := 625) X d_Lw_law_622 (c_Lw_key _ hlt _ N σ a1 v100 v101 a3 _ _ hσ102) q_3_88 q_1_0 q_3_87 q_3_86 ⟨by decide, by decide⟩ ar_Lw_key (by decide) (by decide) mσ102 (Nat.le_of_ble_eq_true rfl) ?_
                    refine hv_istore (pn := 627) (i := 5) (lo' := [some (.ref a0), some (.ref a1), some (.ref a2), some (.ref a3), some (.int x4), some (.int v103), none]) X d_Lw_law_625 ?_
                    refine hv_aload_n (pn := 628) X d_Lw_law_627 ?_
                    refine hv_aload_n (pn := 629) X d_Lw_law_628 ?_
                    refine hv_iload (pn := 631) X d_Lw_law_629 ?_
                    refine hv_iconst (pn := 632) (v := 1) X d_Lw_law_631 ?_
                    refine hv_iadd (pn := 633) X d_Lw_law_632 ?_
                    obtain ⟨v104, hv104, hf⟩ := bd_E hf
                    refine hv_iald (pn := 634) X d_Lw_law_633 hv104 ?_
                    refine hv_aload_n (pn := 635) X d_Lw_law_634 ?_
                    refine hv_iload (pn := 637) X d_Lw_law_635 ?_
                    refine hv_iconst (pn := 638) (v := 2) X d_Lw_law_637 ?_
                    refine hv_iadd (pn := 639) X d_Lw_law_638 ?_
                    obtain ⟨v105, hv105, hf⟩ := bd_E hf
                    refine hv_iald (pn := 640) X d_Lw_law_639 hv105 ?_
                    obtain ⟨_, hr106, hf⟩ := bd_E hf
                    obtain ⟨σ107, v108, hσ107, hf⟩ := bd2_E hf
                    obtain ⟨hσ107, mσ107⟩ := ho_ck_E hσ107
                    refine hv_callV (pn := 643) X d_Lw_law_640 (c_Md_key _ _ N σ102 a2 v104 v105 _ _ hσ107) cs_Lw_108 q_5_75 rfl q_5_76 hr106 (by decide) (by decide) mσ107 (Nat.le_of_ble_eq_true rfl) ?_
                    refine hv_istore (pn := 645) (i := 6) (lo' := [some (.ref a0), some (.ref a1), some (.ref a2), some (.ref a3), some (.int x4), some (.int v103), some (.int v108)]) X d_Lw_law_643 ?_
                    refine hv_aload_n (pn := 646) X d_Lw_law_645 ?_
                    obtain ⟨_, hr109, hf⟩ := bd_E hf
                    obtain ⟨v110, hv110, hf⟩ := bd_E hf
                    refine hv_callV (pn := 649) X d_Lw_law_646 (c_Md_thrown _ _ N σ107 a2 _ hv110) cs_Lw_82 q_4_234 rfl q_4_235 hr109 (by decide) (by decide) ⟨Nat.le_refl _, Nat.le_refl _⟩ (Nat.le_of_ble_eq_true rfl) ?_
                    refine hv_iload (pn := 651) X d_Lw_law_649 ?_
                    refine hv_icmp_eq (pn := 654) (tgt := 656) X d_Lw_law_651 (by decide) (fun hc => ?_) (fun hc => ?_)
                    · rw [if_pos hc] at hf
                      refine hv_iload (pn := 658) X d_Lw_law_656 ?_
                      refine hv_if_ne (pn := 661) (tgt := 673) X d_Lw_law_658 (by decide) (fun hc => ?_) (fun hc => ?_)
                      · rw [if_pos hc] at hf
                        refine hv_drop (i := 5) (lo' := [some (.ref a0), some (.ref a1), some (.ref a2), some (.ref a3), some (.int x4), none, some (.int v108)]) ?_
                        refine hv_drop (i := 6) (lo' := [some (.ref a0), some (.ref a1), some (.ref a2), some (.ref a3), some (.int x4), none, none]) ?_
                        exact w_Lw_law_j673_in53 X hlt N σ107 a0 a1 a2 a3 x4  _ hf E
                      · rw [if_neg hc] at hf
                        refine hv_aload_n (pn := 662) X d_Lw_law_661 ?_
                        refine hv_iconst (pn := 663) (v := 0) X d_Lw_law_662 ?_
                        obtain ⟨v111, hv111, hf⟩ := bd_E hf
                        refine hv_lald (pn := 664) X d_Lw_law_663 hv111 ?_
                        refine hv_iload (pn := 666) X d_Lw_law_664 ?_
                        refine hv_i2l (pn := 667) X d_Lw_law_666 ?_
                        refine hv_lcmp (pn := 668) X d_Lw_law_667 ?_
                        refine hv_if_eq (pn := 671) (tgt := 673) X d_Lw_law_668 (by decide) (fun hc => ?_) (fun hc => ?_)
                        · rw [if_pos hc] at hf
                          refine hv_drop (i := 5) (lo' := [some (.ref a0), some (.ref a1), some (.ref a2), some (.ref a3), some (.int x4), none, some (.int v108)]) ?_
                          refine hv_drop (i := 6) (lo' := [some (.ref a0), some (.ref a1), some (.ref a2), some (.ref a3), some (.int x4), none, none]) ?_
                          exact w_Lw_law_j673_in53 X hlt N σ107 a0 a1 a2 a3 x4  _ hf E
                        · rw [if_neg hc] at hf
                          refine hv_iconst (pn := 672) (v := 0) X d_Lw_law_671 ?_
                          cases hf
                          exact hl_ret X d_Lw_law_672 E
                    · rw [if_neg hc] at hf
                      refine hv_iconst (pn := 655) (v := 0) X d_Lw_law_654 ?_
                      cases hf
                      exact hl_ret X d_Lw_law_655 E
                  · rw [if_neg hs17_7] at hf
                    by_cases hs17_8 : (v16 &&& 15) = 8
                    · rw [if_pos hs17_8] at hf
                      refine hv_tsw_in (n := 8) (off := 606) (tgt := 676) X d_Lw_law_70 (by rw [hs17_8]; decide) (by decide) (by decide) (by decide) (by decide) ?_
                      refine hv_aload_n (pn := 677) X d_Lw_law_676 ?_
                      refine hv_aload_n (pn := 678) X d_Lw_law_677 ?_
                      refine hv_iload (pn := 680) X d_Lw_law_678 ?_
                      refine hv_iconst (pn := 681) (v := 1) X d_Lw_law_680 ?_
                      refine hv_iadd (pn := 682) X d_Lw_law_681 ?_
                      obtain ⟨v112, hv112, hf⟩ := bd_E hf
                      refine hv_iald (pn := 683) X d_Lw_law_682 hv112 ?_
                      refine hv_aload_n (pn := 684) X d_Lw_law_683 ?_
                      refine hv_iload (pn := 686) X d_Lw_law_684 ?_
                      refine hv_iconst (pn := 687) (v := 2) X d_Lw_law_686 ?_
                      refine hv_iadd (pn := 688) X d_Lw_law_687 ?_
                      obtain ⟨v113, hv113, hf⟩ := bd_E hf
                      refine hv_iald (pn := 689) X d_Lw_law_688 hv113 ?_
                      obtain ⟨σ114, v115, hσ114, hf⟩ := bd2_E hf
                      obtain ⟨hσ114, mσ114⟩ := ho_ck_E hσ114
                      refine hw_callS (pn := 692) X d_Lw_law_689 (c_Lw_join _ hlt _ N σ a1 v112 v113 _ _ hσ114) q_3_96 q_1_0 q_3_95 q_3_94 ⟨by decide, by decide⟩ ar_Lw_join (by decide) (by decide) mσ114 (Nat.le_of_ble_eq_true rfl) ?_
                      refine hv_istore (pn := 694) (i := 5) (lo' := [some (.ref a0), some (.ref a1), some (.ref a2), some (.ref a3), some (.int x4), some (.int v115), none]) X d_Lw_law_692 ?_
                      refine hv_aload_n (pn := 695) X d_Lw_law_694 ?_
                      refine hv_aload_n (pn := 696) X d_Lw_law_695 ?_
                      refine hv_iload (pn := 698) X d_Lw_law_696 ?_
                      refine hv_iconst (pn := 699) (v := 1) X d_Lw_law_698 ?_
                      refine hv_iadd (pn := 700) X d_Lw_law_699 ?_
                      obtain ⟨v116, hv116, hf⟩ := bd_E hf
                      refine hv_iald (pn := 701) X d_Lw_law_700 hv116 ?_
                      refine hv_aload_n (pn := 702) X d_Lw_law_701 ?_
                      refine hv_iload (pn := 704) X d_Lw_law_702 ?_
                      refine hv_iconst (pn := 705) (v := 2) X d_Lw_law_704 ?_
                      refine hv_iadd (pn := 706) X d_Lw_law_705 ?_
                      obtain ⟨v117, hv117, hf⟩ := bd_E hf
                      refine hv_iald (pn := 707) X d_Lw_law_706 hv117 ?_
                      obtain ⟨_, hr118, hf⟩ := bd_E hf
                      obtain ⟨σ119, hσ119, hf⟩ := bd_E hf
                      obtain ⟨hσ119, mσ119⟩ := ho_cv_E hσ119
                      refine hv_callV (pn := 710) X d_Lw_law_707 (c_Md_join _ _ N σ114 a2 v116 v117 _ hσ119) cs_Lw_112 q_5_83 rfl q_5_84 hr118 (by decide) (by decide) mσ119 (Nat.le_of_ble_eq_true rfl) ?_
                      refine hv_aload_n (pn := 711) X d_Lw_law_710 ?_
                      obtain ⟨_, hr120, hf⟩ := bd_E hf
                      obtain ⟨v121, hv121, hf⟩ := bd_E hf
                      refine hv_callV (pn := 714) X d_Lw_law_711 (c_Md_thrown _ _ N σ119 a2 _ hv121) cs_Lw_82 q_4_234 rfl q_4_235 hr120 (by decide) (by decide) ⟨Nat.le_refl _, Nat.le_refl _⟩ (Nat.le_of_ble_eq_true rfl) ?_
                      refine hv_iload (pn := 716) X d_Lw_law_714 ?_
                      refine hv_icmp_eq (pn := 719) (tgt := 721) X d_Lw_law_716 (by decide) (fun hc => ?_) (fun hc => ?_)
                      · rw [if_pos hc] at hf
                        refine hv_goto (tgt := 1137) X d_Lw_law_721 (by decide) ?_
                        refine hv_drop (i := 5) (lo' := [some (.ref a0), some (.ref a1), some (.ref a2), some (.ref a3), some (.int x4), none, none]) ?_
                        exact w_Lw_law_j1137_in53 X hlt N σ119 a0 a1 a2 a3 x4  _ hf E
                      · rw [if_neg hc] at hf
                        refine hv_iconst (pn := 720) (v := 0) X d_Lw_law_719 ?_
                        cases hf
                        exact hl_ret X d_Lw_law_720 E
                    · rw [if_neg hs17_8] at hf
                      by_cases hs17_9 : (v16 &&& 15) = 9
                      · rw [if_pos hs17_9] at hf
                        refine hv_tsw_in (n := 9) (off := 654) (tgt := 724) X d_Lw_law_70 (by rw [hs17_9]; decide) (by decide) (by decide) (by decide) (by decide) ?_
                        refine hv_aload_n (pn := 725) X d_Lw_law_724 ?_
                        refine hv_aload_n (pn := 726) X d_Lw_law_725 ?_
                        refine hv_iload (pn := 728) X d_Lw_law_726 ?_
                        refine hv_iconst (pn := 729) (v := 1) X d_Lw_law_728 ?_
                        refine hv_iadd (pn := 730) X d_Lw_law_729 ?_
                        obtain ⟨v122, hv122, hf⟩ := bd_E hf
                        refine hv_iald (pn := 731) X d_Lw_law_730 hv122 ?_
                        refine hv_aload_n (pn := 732) X d_Lw_law_731 ?_
                        refine hv_iload (pn := 734) X d_Lw_law_732 ?_
                        refine hv_iconst (pn := 735) (v := 2) X d_Lw_law_734 ?_
                        refine hv_iadd (pn := 736) X d_Lw_law_735 ?_
                        obtain ⟨v123, hv123, hf⟩ := bd_E hf
                        refine hv_iald (pn := 737) X d_Lw_law_736 hv123 ?_
                        refine hv_aload_n (pn := 738) X d_Lw_law_737 ?_
                        obtain ⟨σ124, v125, hσ124, hf⟩ := bd2_E hf
                        obtain ⟨hσ124, mσ124⟩ := ho_ck_E hσ124
                        refine hw_callS (pn := 741) X d_Lw_law_738 (c_Lw_drift _ hlt _ N σ a1 v122 v123 a3 _ _ hσ124) q_3_124 q_1_0 q_3_123 q_3_122 ⟨by decide, by decide⟩ ar_Lw_drift (by decide) (by decide) mσ124 (Nat.le_of_ble_eq_true rfl) ?_
                        refine hv_istore (pn := 743) (i := 5) (lo' := [some (.ref a0), some (.ref a1), some (.ref a2), some (.ref a3), some (.int x4), some (.int v125), none]) X d_Lw_law_741 ?_
                        refine hv_aload_n (pn := 744) X d_Lw_law_743 ?_
                        refine hv_aload_n (pn := 745) X d_Lw_law_744 ?_
                        refine hv_iload (pn := 747) X d_Lw_law_745 ?_
                        refine hv_iconst (pn := 748) (v := 1) X d_Lw_law_747 ?_
                        refine hv_iadd (pn := 749) X d_Lw_law_748 ?_
                        obtain ⟨v126, hv126, hf⟩ := bd_E hf
                        refine hv_iald (pn := 750) X d_Lw_law_749 hv126 ?_
                        refine hv_aload_n (pn := 751) X d_Lw_law_750 ?_
                        refine hv_iload (pn := 753) X d_Lw_law_751 ?_
                        refine hv_iconst (pn := 754) (v := 2) X d_Lw_law_753 ?_
                        refine hv_iadd (pn := 755) X d_Lw_law_754 ?_
                        obtain ⟨v127, hv127, hf⟩ := bd_E hf
                        refine hv_iald (pn := 756) X d_Lw_law_755 hv127 ?_
                        obtain ⟨_, hr128, hf⟩ := bd_E hf
                        obtain ⟨σ129, v130, hσ129, hf⟩ := bd2_E hf
                        obtain ⟨hσ129, mσ129⟩ := ho_ck_E hσ129
                        refine hv_callV (pn := 759) X d_Lw_law_756 (c_Md_drift _ _ N σ124 a2 v126 v127 _ _ hσ129) cs_Lw_115 q_5_87 rfl q_5_88 hr128 (by decide) (by decide) mσ129 (Nat.le_of_ble_eq_true rfl) ?_
                        refine hv_istore (pn := 761) (i := 6) (lo' := [some (.ref a0), some (.ref a1), some (.ref a2), some (.ref a3), some (.int x4), some (.int v125), some (.int v130)]) X d_Lw_law_759 ?_
                        refine hv_aload_n (pn := 762) X d_Lw_law_761 ?_
                        obtain ⟨_, hr131, hf⟩ := bd_E hf
                        obtain ⟨v132, hv132, hf⟩ := bd_E hf
                        refine hv_callV (pn := 765) X d_Lw_law_762 (c_Md_thrown _ _ N σ129 a2 _ hv132) cs_Lw_82 q_4_234 rfl q_4_235 hr131 (by decide) (by decide) ⟨Nat.le_refl _, Nat.le_refl _⟩ (Nat.le_of_ble_eq_true rfl) ?_
                        refine hv_iload (pn := 767) X d_Lw_law_765 ?_
                        refine hv_icmp_eq (pn := 770) (tgt := 772) X d_Lw_law_767 (by decide) (fun hc => ?_) (fun hc => ?_)
                        · rw [if_pos hc] at hf
                          refine hv_iload (pn := 774) X d_Lw_law_772 ?_
                          refine hv_if_ne (pn := 777) (tgt := 789) X d_Lw_law_774 (by decide) (fun hc => ?_) (fun hc => ?_)
                          · rw [if_pos hc] at hf
                            refine hv_drop (i := 5) (lo' := [some (.ref a0), some (.ref a1), some (.ref a2), some (.ref a3), some (.int x4), none, some (.int v130)]) ?_
                            refine hv_drop (i := 6) (lo' := [some (.ref a0), some (.ref a1), some (.ref a2), some (.ref a3), some (.int x4), none, none]) ?_
                            exact w_Lw_law_j789_in53 X hlt N σ129 a0 a1 a2 a3 x4  _ hf E
                          · rw [if_neg hc] at hf
                            refine hv_aload_n (pn := 778) X d_Lw_law_777 ?_
                            refine hv_iconst (pn := 779) (v := 0) X d_Lw_law_778 ?_
                            obtain ⟨v133, hv133, hf⟩ := bd_E hf
                            refine hv_lald (pn := 780) X d_Lw_law_779 hv133 ?_
                            refine hv_iload (pn := 782) X d_Lw_law_780 ?_
                            refine hv_i2l (pn := 783) X d_Lw_law_782 ?_
                            refine hv_lcmp (pn := 784) X d_Lw_law_783 ?_
                            refine hv_if_eq (pn := 787) (tgt := 789) X d_Lw_law_784 (by decide) (fun hc => ?_) (fun hc => ?_)
                            · rw [if_pos hc] at hf
                              refine hv_drop (i := 5) (lo' := [some (.ref a0), some (.ref a1), some (.ref a2), some (.ref a3), some (.int x4), none, some (.int v130)]) ?_
                              refine hv_drop (i := 6) (lo' := [some (.ref a0), some (.ref a1), some (.ref a2), some (.ref a3), some (.int x4), none, none]) ?_
                              exact w_Lw_law_j789_in53 X hlt N σ129 a0 a1 a2 a3 x4  _ hf E
                            · rw [if_neg hc] at hf
                              refine hv_iconst (pn := 788) (v := 0) X d_Lw_law_787 ?_
                              cases hf
                              exact hl_ret X d_Lw_law_788 E
                        · rw [if_neg hc] at hf
                          refine hv_iconst (pn := 771) (v := 0) X d_Lw_law_770 ?_
                          cases hf
                          exact hl_ret X d_Lw_law_771 E
                      · rw [if_neg hs17_9] at hf
                        by_cases hs17_10 : (v16 &&& 15) = 10
                        · rw [if_pos hs17_10] at hf
                          refine hv_tsw_in (n := 10) (off := 722) (tgt := 792) X d_Lw_law_70 (by rw [hs17_10]; decide) (by decide) (by decide) (by decide) (by decide) ?_
                          refine hv_aload_n (pn := 793) X d_Lw_law_792 ?_
                          refine hv_aload_n (pn := 794) X d_Lw_law_793 ?_
                          refine hv_iload (pn := 796) X d_Lw_law_794 ?_
                          refine hv_iconst (pn := 797) (v := 1) X d_Lw_law_796 ?_
                          refine hv_iadd (pn := 798) X d_Lw_law_797 ?_
                          obtain ⟨v134, hv134, hf⟩ := bd_E hf
                          refine hv_iald (pn := 799) X d_Lw_law_798 hv134 ?_
                          refine hv_aload_n (pn := 800) X d_Lw_law_799 ?_
                          refine hv_iload (pn := 802) X d_Lw_law_800 ?_
                          refine hv_iconst (pn := 803) (v := 2) X d_Lw_law_802 ?_
                          refine hv_iadd (pn := 804) X d_Lw_law_803 ?_
                          obtain ⟨v135, hv135, hf⟩ := bd_E hf
                          refine hv_iald (pn := 805) X d_Lw_law_804 hv135 ?_
                          refine hv_aload_n (pn := 806) X d_Lw_law_805 ?_
                          refine hv_iload (pn := 808) X d_Lw_law_806 ?_
                          refine hv_iconst (pn := 809) (v := 3) X d_Lw_law_808 ?_
                          refine hv_iadd (pn := 810) X d_Lw_law_809 ?_
                          obtain ⟨v136, hv136, hf⟩ := bd_E hf
                          refine hv_iald (pn := 811) X d_Lw_law_810 hv136 ?_
                          refine hv_aload_n (pn := 812) X d_Lw_law_811 ?_
                          refine hv_iload (pn := 814) X d_Lw_law_812 ?_
                          refine hv_iconst (pn := 815) (v := 4) X d_Lw_law_814 ?_
                          refine hv_iadd (pn := 816) X d_Lw_law_815 ?_
                          obtain ⟨v137, hv137, hf⟩ := bd_E hf
                          refine hv_iald (pn := 817) X d_Lw_law_816 hv137 ?_
                          refine hv_aload_n (pn := 818) X d_Lw_law_817 ?_
                          obtain ⟨σ138, v139, hσ138, hf⟩ := bd2_E hf
                          obtain ⟨hσ138, mσ138⟩ := ho_ck_E hσ138
                          refine hw_callS (pn := 821) X d_Lw_law_818 (c_Lw_arrive _ hlt _ N σ a1 v134 v135 v136 v137 a3 _ _ hσ138) q_3_131 q_1_0 q_3_130 q_3_129 ⟨by decide, by decide⟩ ar_Lw_arrive (by decide) (by decide) mσ138 (Nat.le_of_ble_eq_true rfl) ?_
                          refine hv_istore (pn := 823) (i := 5) (lo' := [some (.ref a0), some (.ref a1), some (.ref a2), some (.ref a3), some (.int x4), some (.int v139), none]) X d_Lw_law_821 ?_
                          refine hv_aload_n (pn := 824) X d_Lw_law_823 ?_
                          refine hv_aload_n (pn := 825) X d_Lw_law_824 ?_
                          refine hv_iload (pn := 827) X d_Lw_law_825 ?_
                          refine hv_iconst (pn := 828) (v := 1) X d_Lw_law_827 ?_
                          refine hv_iadd (pn := 829) X d_Lw_law_828 ?_
                          obtain ⟨v140, hv140, hf⟩ := bd_E hf
                          refine hv_iald (pn := 830) X d_Lw_law_829 hv140 ?_
                          refine hv_aload_n (pn := 831) X d_Lw_law_830 ?_
                          refine hv_iload (pn := 833) X d_Lw_law_831 ?_
                          refine hv_iconst (pn := 834) (v := 2) X d_Lw_law_833 ?_
                          refine hv_iadd (pn := 835) X d_Lw_law_834 ?_
                          obtain ⟨v141, hv141, hf⟩ := bd_E hf
                          refine hv_iald (pn := 836) X d_Lw_law_835 hv141 ?_
                          refine hv_aload_n (pn := 837) X d_Lw_law_836 ?_
                          refine hv_iload (pn := 839) X d_Lw_law_837 ?_
                          refine hv_iconst (pn := 840) (v := 3) X d_Lw_law_839 ?_
                          refine hv_iadd (pn := 841) X d_Lw_law_840 ?_
                          obtain ⟨v142, hv142, hf⟩ := bd_E hf
                          refine hv_iald (pn := 842) X d_Lw_law_841 hv142 ?_
                          refine hv_aload_n (pn := 843) X d_Lw_law_842 ?_
                          refine hv_iload (pn := 845) X d_Lw_law_843 ?_
                          refine hv_iconst (pn := 846) (v := 4) X d_Lw_law_845 ?_
                          refine hv_iadd (pn := 847) X d_Lw_law_846 ?_
                          obtain ⟨v143, hv143, hf⟩ := bd_E hf
                          refine hv_iald (pn := 848) X d_Lw_law_847 hv143 ?_
                          obtain ⟨_, hr144, hf⟩ := bd_E hf
                          obtain ⟨σ145, v146, hσ145, hf⟩ := bd2_E hf
                          obtain ⟨hσ145, mσ145⟩ := ho_ck_E hσ145
                          refine hv_callV (pn := 851) X d_Lw_law_848 (c_Md_arrive _ _ N σ138 a2 v140 v141 v142 v143 _ _ hσ145) cs_Lw_119 q_5_91 rfl q_5_92 hr144 (by decide) (by decide) mσ145 (Nat.le_of_ble_eq_true rfl) ?_
                          refine hv_istore (pn := 853) (i := 6) (lo' := [some (.ref a0), some (.ref a1), some (.ref a2), some (.ref a3), some (.int x4), some (.int v139), some (.int v146)]) X d_Lw_law_851 ?_
                          refine hv_aload_n (pn := 854) X d_Lw_law_853 ?_
                          obtain ⟨_, hr147, hf⟩ := bd_E hf
                          obtain ⟨v148, hv148, hf⟩ := bd_E hf
                          refine hv_callV (pn := 857) X d_Lw_law_854 (c_Md_thrown _ _ N σ145 a2 _ hv148) cs_Lw_82 q_4_234 rfl q_4_235 hr147 (by decide) (by decide) ⟨Nat.le_refl _, Nat.le_refl _⟩ (Nat.le_of_ble_eq_true rfl) ?_
                          refine hv_iload (pn := 859) X d_Lw_law_857 ?_
                          refine hv_icmp_eq (pn := 862) (tgt := 864) X d_Lw_law_859 (by decide) (fun hc => ?_) (fun hc => ?_)
                          · rw [if_pos hc] at hf
                            refine hv_iload (pn := 866) X d_Lw_law_864 ?_
                            refine hv_if_ne (pn := 869) (tgt := 881) X d_Lw_law_866 (by decide) (fun hc => ?_) (fun hc => ?_)
                            · rw [if_pos hc] at hf
                              refine hv_drop (i := 5) (lo' := [some (.ref a0), some (.ref a1), some (.ref a2), some (.ref a3), some (.int x4), none, some (.int v146)]) ?_
                              refine hv_drop (i := 6) (lo' := [some (.ref a0), some (.ref a1), some (.ref a2), some (.ref a3), some (.int x4), none, none]) ?_
                              exact w_Lw_law_j881_in53 X hlt N σ145 a0 a1 a2 a3 x4  _ hf E
                            · rw [if_neg hc] at hf
                              refine hv_aload_n (pn := 870) X d_Lw_law_869 ?_
                              refine hv_iconst (pn := 871) (v := 0) X d_Lw_law_870 ?_
                              obtain ⟨v149, hv149, hf⟩ := bd_E hf
                              refine hv_lald (pn := 872) X d_Lw_law_871 hv149 ?_
                              refine hv_iload (pn := 874) X d_Lw_law_872 ?_
                              refine hv_i2l (pn := 875) X d_Lw_law_874 ?_
                              refine hv_lcmp (pn := 876) X d_Lw_law_875 ?_
                              refine hv_if_eq (pn := 879) (tgt := 881) X d_Lw_law_876 (by decide) (fun hc => ?_) (fun hc => ?_)
                              · rw [if_pos hc] at hf
                                refine hv_drop (i := 5) (lo' := [some (.ref a0), some (.ref a1), some (.ref a2), some (.ref a3), some (.int x4), none, some (.int v146)]) ?_
                                refine hv_drop (i := 6) (lo' := [some (.ref a0), some (.ref a1), some (.ref a2), some (.ref a3), some (.int x4), none, none]) ?_
                                exact w_Lw_law_j881_in53 X hlt N σ145 a0 a1 a2 a3 x4  _ hf E
                              · rw [if_neg hc] at hf
                                refine hv_iconst (pn := 880) (v := 0) X d_Lw_law_879 ?_
                                cases hf
                                exact hl_ret X d_Lw_law_880 E
                          · rw [if_neg hc] at hf
                            refine hv_iconst (pn := 863) (v := 0) X d_Lw_law_862 ?_
                            cases hf
                            exact hl_ret X d_Lw_law_863 E
                        · rw [if_neg hs17_10] at hf
                          by_cases hs17_11 : (v16 &&& 15) = 11
                          · rw [if_pos hs17_11] at hf
                            refine hv_tsw_in (n := 11) (off := 814) (tgt := 884) X d_Lw_law_70 (by rw [hs17_11]; decide) (by decide) (by decide) (by decide) (by decide) ?_
                            refine hv_aload_n (pn := 885) X d_Lw_law_884 ?_
                            refine hv_aload_n (pn := 886) X d_Lw_law_885 ?_
                            refine hv_iload (pn := 888) X d_Lw_law_886 ?_
                            refine hv_iconst (pn := 889) (v := 1) X d_Lw_law_888 ?_
                            refine hv_iadd (pn := 890) X d_Lw_law_889 ?_
                            obtain ⟨v150, hv150, hf⟩ := bd_E hf
                            refine hv_iald (pn := 891) X d_Lw_law_890 hv150 ?_
                            refine hv_aload_n (pn := 892) X d_Lw_law_891 ?_
                            refine hv_iload (pn := 894) X d_Lw_law_892 ?_
                            refine hv_iconst (pn := 895) (v := 2) X d_Lw_law_894 ?_
                            refine hv_iadd (pn := 896) X d_Lw_law_895 ?_
                            obtain ⟨v151, hv151, hf⟩ := bd_E hf
                            refine hv_iald (pn := 897) X d_Lw_law_896 hv151 ?_
                            refine hv_aload_n (pn := 898) X d_Lw_law_897 ?_
                            obtain ⟨σ152, v153, hσ152, hf⟩ := bd2_E hf
                            obtain ⟨hσ152, mσ152⟩ := ho_ck_E hσ152
                            refine hw_callS (pn := 901) X d_Lw_law_898 (c_Lw_receiver _ hlt _ N σ a1 v150 v151 a3 _ _ hσ152) q_3_239 q_1_0 q_3_238 q_3_237 ⟨by decide, by decide⟩ ar_Lw_receiver (by decide) (by decide) mσ152 (Nat.le_of_ble_eq_true rfl) ?_
                            refine hv_istore (pn := 903) (i := 5) (lo' := [some (.ref a0), some (.ref a1), some (.ref a2), some (.ref a3), some (.int x4), some (.int v153), none]) X d_Lw_law_901 ?_
                            refine hv_aload_n (pn := 904) X d_Lw_law_903 ?_
                            refine hv_aload_n (pn := 905) X d_Lw_law_904 ?_
                            refine hv_iload (pn := 907) X d_Lw_law_905 ?_
                            refine hv_iconst (pn := 908) (v := 1) X d_Lw_law_907 ?_
                            refine hv_iadd (pn := 909) X d_Lw_law_908 ?_
                            obtain ⟨v154, hv154, hf⟩ := bd_E hf
                            refine hv_iald (pn := 910) X d_Lw_law_909 hv154 ?_
                            refine hv_aload_n (pn := 911) X d_Lw_law_910 ?_
                            refine hv_iload (pn := 913) X d_Lw_law_911 ?_
                            refine hv_iconst (pn := 914) (v := 2) X d_Lw_law_913 ?_
                            refine hv_iadd (pn := 915) X d_Lw_law_914 ?_
                            obtain ⟨v155, hv155, hf⟩ := bd_E hf
                            refine hv_iald (pn := 916) X d_Lw_law_915 hv155 ?_
                            obtain ⟨_, hr156, hf⟩ := bd_E hf
                            obtain ⟨σ157, v158, hσ157, hf⟩ := bd2_E hf
                            obtain ⟨hσ157, mσ157⟩ := ho_ck_E hσ157
                            refine hv_callV (pn := 919) X d_Lw_law_916 (c_Md_receiver _ _ N σ152 a2 v154 v155 _ _ hσ157) cs_Lw_122 q_5_143 rfl q_5_144 hr156 (by decide) (by decide) mσ157 (Nat.le_of_ble_eq_true rfl) ?_
                            refine hv_istore (pn := 921) (i := 6) (lo' := [some (.ref a0), some (.ref a1), some (.ref a2), some (.ref a3), some (.int x4), some (.int v153), some (.int v158)]) X d_Lw_law_919 ?_
                            refine hv_aload_n (pn := 922) X d_Lw_law_921 ?_
                            obtain ⟨_, hr159, hf⟩ := bd_E hf
                            obtain ⟨v160, hv160, hf⟩ := bd_E hf
                            refine hv_callV (pn := 925) X d_Lw_law_922 (c_Md_thrown _ _ N σ157 a2 _ hv160) cs_Lw_82 q_4_234 rfl q_4_235 hr159 (by decide) (by decide) ⟨Nat.le_refl _, Nat.le_refl _⟩ (Nat.le_of_ble_eq_true rfl) ?_
                            refine hv_iload (pn := 927) X d_Lw_law_925 ?_
                            refine hv_icmp_eq (pn := 930) (tgt := 932) X d_Lw_law_927 (by decide) (fun hc => ?_) (fun hc => ?_)
                            · rw [if_pos hc] at hf
                              refine hv_iload (pn := 934) X d_Lw_law_932 ?_
                              refine hv_if_ne (pn := 937) (tgt := 949) X d_Lw_law_934 (by decide) (fun hc => ?_) (fun hc => ?_)
                              · rw [if_pos hc] at hf
                                refine hv_drop (i := 5) (lo' := [some (.ref a0), some (.ref a1), some (.ref a2), some (.ref a3), some (.int x4), none, some (.int v158)]) ?_
                                refine hv_drop (i := 6) (lo' := [some (.ref a0), some (.ref a1), some (.ref a2), some (.ref a3), some (.int x4), none, none]) ?_
                                exact w_Lw_law_j949_in53 X hlt N σ157 a0 a1 a2 a3 x4  _ hf E
                              · rw [if_neg hc] at hf
                                refine hv_aload_n (pn := 938) X d_Lw_law_937 ?_
                                refine hv_iconst (pn := 939) (v := 0) X d_Lw_law_938 ?_
                                obtain ⟨v161, hv161, hf⟩ := bd_E hf
                                refine hv_lald (pn := 940) X d_Lw_law_939 hv161 ?_
                                refine hv_iload (pn := 942) X d_Lw_law_940 ?_
                                refine hv_i2l (pn := 943) X d_Lw_law_942 ?_
                                refine hv_lcmp (pn := 944) X d_Lw_law_943 ?_
                                refine hv_if_eq (pn := 947) (tgt := 949) X d_Lw_law_944 (by decide) (fun hc => ?_) (fun hc => ?_)
                                · rw [if_pos hc] at hf
                                  refine hv_drop (i := 5) (lo' := [some (.ref a0), some (.ref a1), some (.ref a2), some (.ref a3), some (.int x4), none, some (.int v158)]) ?_
                                  refine hv_drop (i := 6) (lo' := [some (.ref a0), some (.ref a1), some (.ref a2), some (.ref a3), some (.int x4), none, none]) ?_
                                  exact w_Lw_law_j949_in53 X hlt N σ157 a0 a1 a2 a3 x4  _ hf E
                                · rw [if_neg hc] at hf
                                  refine hv_iconst (pn := 948) (v := 0) X d_Lw_law_947 ?_
                                  cases hf
                                  exact hl_ret X d_Lw_law_948 E
                            · rw [if_neg hc] at hf
                              refine hv_iconst (pn := 931) (v := 0) X d_Lw_law_930 ?_
                              cases hf
                              exact hl_ret X d_Lw_law_931 E
                          · rw [if_neg hs17_11] at hf
                            by_cases hs17_12 : (v16 &&& 15) = 12
                            · rw [if_pos hs17_12] at hf
                              refine hv_tsw_in (n := 12) (off := 882) (tgt := 952) X d_Lw_law_70 (by rw [hs17_12]; decide) (by decide) (by decide) (by decide) (by decide) ?_
                              refine hv_aload_n (pn := 953) X d_Lw_law_952 ?_
                              refine hv_aload_n (pn := 954) X d_Lw_law_953 ?_
                              refine hv_iload (pn := 956) X d_Lw_law_954 ?_
                              refine hv_iconst (pn := 957) (v := 1) X d_Lw_law_956 ?_
                              refine hv_iadd (pn := 958) X d_Lw_law_957 ?_
                              obtain ⟨v162, hv162, hf⟩ := bd_E hf
                              refine hv_iald (pn := 959) X d_Lw_law_958 hv162 ?_
                              refine hv_aload_n (pn := 960) X d_Lw_law_959 ?_
                              refine hv_iload (pn := 962) X d_Lw_law_960 ?_
                              refine hv_iconst (pn := 963) (v := 2) X d_Lw_law_962 ?_
                              refine hv_iadd (pn := 964) X d_Lw_law_963 ?_
                              obtain ⟨v163, hv163, hf⟩ := bd_E hf
                              refine hv_iald (pn := 965) X d_Lw_law_964 hv163 ?_
                              refine hv_aload_n (pn := 966) X d_Lw_law_965 ?_
                              refine hv_iload (pn := 968) X d_Lw_law_966 ?_
                              refine hv_iconst (pn := 969) (v := 3) X d_Lw_law_968 ?_
                              refine hv_iadd (pn := 970) X d_Lw_law_969 ?_
                              obtain ⟨v164, hv164, hf⟩ := bd_E hf
                              refine hv_iald (pn := 971) X d_Lw_law_970 hv164 ?_
                              refine hv_aload_n (pn := 972) X d_Lw_law_971 ?_
                              obtain ⟨σ165, v166, hσ165, hf⟩ := bd2_E hf
                              obtain ⟨hσ165, mσ165⟩ := ho_ck_E hσ165
                              refine hw_callS (pn := 975) X d_Lw_law_972 (c_Lw_released _ hlt _ N σ a1 v162 v163 v164 a3 _ _ hσ165) q_4_10 q_1_0 q_4_9 q_4_8 ⟨by decide, by decide⟩ ar_Lw_released (by decide) (by decide) mσ165 (Nat.le_of_ble_eq_true rfl) ?_
                              refine hv_istore (pn := 977) (i := 5) (lo' := [some (.ref a0), some (.ref a1), some (.ref a2), some (.ref a3), some (.int x4), some (.int v166), none]) X d_Lw_law_975 ?_
                              refine hv_aload_n (pn := 978) X d_Lw_law_977 ?_
                              refine hv_aload_n (pn := 979) X d_Lw_law_978 ?_
                              refine hv_iload (pn := 981) X d_Lw_law_979 ?_
                              refine hv_iconst (pn := 982) (v := 1) X d_Lw_law_981 ?_
                              refine hv_iadd (pn := 983) X d_Lw_law_982 ?_
                              obtain ⟨v167, hv167, hf⟩ := bd_E hf
                              refine hv_iald (pn := 984) X d_Lw_law_983 hv167 ?_
                              refine hv_aload_n (pn := 985) X d_Lw_law_984 ?_
                              refine hv_iload (pn := 987) X d_Lw_law_985 ?_
                              refine hv_iconst (pn := 988) (v := 2) X d_Lw_law_987 ?_
                              refine hv_iadd (pn := 989) X d_Lw_law_988 ?_
                              obtain ⟨v168, hv168, hf⟩ := bd_E hf
                              refine hv_iald (pn := 990) X d_Lw_law_989 hv168 ?_
                              refine hv_aload_n (pn := 991) X d_Lw_law_990 ?_
                              refine hv_iload (pn := 993) X d_Lw_law_991 ?_
                              refine hv_iconst (pn := 994) (v := 3) X d_Lw_law_993 ?_
                              refine hv_iadd (pn := 995) X d_Lw_law_994 ?_
                              obtain ⟨v169, hv169, hf⟩ := bd_E hf
                              refine hv_iald (pn := 996) X d_Lw_law_995 hv169 ?_
                              obtain ⟨_, hr170, hf⟩ := bd_E hf
                              obtain ⟨σ171, v172, hσ171, hf⟩ := bd2_E hf
                              obtain ⟨hσ171, mσ171⟩ := ho_ck_E hσ171
                              refine hv_callV (pn := 999) X d_Lw_law_996 (c_Md_released _ _ N σ165 a2 v167 v168 v169 _ _ hσ171) cs_Lw_126 q_5_147 rfl q_5_148 hr170 (by decide) (by decide) mσ171 (Nat.le_of_ble_eq_true rfl) ?_
                              refine hv_istore (pn := 1001) (i := 6) (lo' := [some (.ref a0), some (.ref a1), some (.ref a2), some (.ref a3), some (.int x4), some (.int v166), some (.int v172)]) X d_Lw_law_999 ?_
                              refine hv_aload_n (pn := 1002) X d_Lw_law_1001 ?_
                              obtain ⟨_, hr173, hf⟩ := bd_E hf
                              obtain ⟨v174, hv174, hf⟩ := bd_E hf
                              refine hv_callV (pn := 1005) X d_Lw_law_1002 (c_Md_thrown _ _ N σ171 a2 _ hv174) cs_Lw_82 q_4_234 rfl q_4_235 hr173 (by decide) (by decide) ⟨Nat.le_refl _, Nat.le_refl _⟩ (Nat.le_of_ble_eq_true rfl) ?_
                              refine hv_iload (pn := 1007) X d_Lw_law_1005 ?_
                              refine hv_icmp_eq (pn := 1010) (tgt := 1012) X d_Lw_law_1007 (by decide) (fun hc => ?_) (fun hc => ?_)
                              · rw [if_pos hc] at hf
                                refine hv_iload (pn := 1014) X d_Lw_law_1012 ?_
                                refine hv_if_ne (pn := 1017) (tgt := 1029) X d_Lw_law_1014 (by decide) (fun hc => ?_) (fun hc => ?_)
                                · rw [if_pos hc] at hf
                                  refine hv_drop (i := 5) (lo' := [some (.ref a0), some (.ref a1), some (.ref a2), some (.ref a3), some (.int x4), none, some (.int v172)]) ?_
                                  refine hv_drop (i := 6) (lo' := [some (.ref a0), some (.ref a1), some (.ref a2), some (.ref a3), some (.int x4), none, none]) ?_
                                  exact w_Lw_law_j1029_in53 X hlt N σ171 a0 a1 a2 a3 x4  _ hf E
                                · rw [if_neg hc] at hf
                                  refine hv_aload_n (pn := 1018) X d_Lw_law_1017 ?_
                                  refine hv_iconst (pn := 1019) (v := 0) X d_Lw_law_1018 ?_
                                  obtain ⟨v175, hv175, hf⟩ := bd_E hf
                                  refine hv_lald (pn := 1020) X d_Lw_law_1019 hv175 ?_
                                  refine hv_iload (pn := 1022) X d_Lw_law_1020 ?_
                                  refine hv_i2l (pn := 1023) X d_Lw_law_1022 ?_
                                  refine hv_lcmp (pn := 1024) X d_Lw_law_1023 ?_
                                  refine hv_if_eq (pn := 1027) (tgt := 1029) X d_Lw_law_1024 (by decide) (fun hc => ?_) (fun hc => ?_)
                                  · rw [if_pos hc] at hf
                                    refine hv_drop (i := 5) (lo' := [some (.ref a0), some (.ref a1), some (.ref a2), some (.ref a3), some (.int x4), none, some (.int v172)]) ?_
                                    refine hv_drop (i := 6) (lo' := [some (.ref a0), some (.ref a1), some (.ref a2), some (.ref a3), some (.int x4), none, none]) ?_
                                    exact w_Lw_law_j1029_in53 X hlt N σ171 a0 a1 a2 a3 x4  _ hf E
                                  · rw [if_neg hc] at hf
                                    refine hv_iconst (pn := 1028) (v := 0) X d_Lw_law_1027 ?_
                                    cases hf
                                    exact hl_ret X d_Lw_law_1028 E
                              · rw [if_neg hc] at hf
                                refine hv_iconst (pn := 1011) (v := 0) X d_Lw_law_1010 ?_
                                cases hf
                                exact hl_ret X d_Lw_law_1011 E
                            · rw [if_neg hs17_12] at hf
                              by_cases hs17_13 : (v16 &&& 15) = 13
                              · rw [if_pos hs17_13] at hf
                                refine hv_tsw_in (n := 13) (off := 962) (tgt := 1032) X d_Lw_law_70 (by rw [hs17_13]; decide) (by decide) (by decide) (by decide) (by decide) ?_
                                refine hv_aload_n (pn := 1033) X d_Lw_law_1032 ?_
                                refine hv_aload_n (pn := 1034) X d_Lw_law_1033 ?_
                                refine hv_iload (pn := 1036) X d_Lw_law_1034 ?_
                                refine hv_iconst (pn := 1037) (v := 1) X d_Lw_law_1036 ?_
                                refine hv_iadd (pn := 1038) X d_Lw_law_1037 ?_
                                obtain ⟨v176, hv176, hf⟩ := bd_E hf
                                refine hv_iald (pn := 1039) X d_Lw_law_1038 hv176 ?_
                                refine hv_aload_n (pn := 1040) X d_Lw_law_1039 ?_
                                refine hv_iload (pn := 1042) X d_Lw_law_1040 ?_
                                refine hv_iconst (pn := 1043) (v := 2) X d_Lw_law_1042 ?_
                                refine hv_iadd (pn := 1044) X d_Lw_law_1043 ?_
                                obtain ⟨v177, hv177, hf⟩ := bd_E hf
                                refine hv_iald (pn := 1045) X d_Lw_law_1044 hv177 ?_
                                refine hv_aload_n (pn := 1046) X d_Lw_law_1045 ?_
                                refine hv_iload (pn := 1048) X d_Lw_law_1046 ?_
                                refine hv_iconst (pn := 1049) (v := 3) X d_Lw_law_1048 ?_
                                refine hv_iadd (pn := 1050) X d_Lw_law_1049 ?_
                                obtain ⟨v178, hv178, hf⟩ := bd_E hf
                                refine hv_iald (pn := 1051) X d_Lw_law_1050 hv178 ?_
                                refine hv_aload_n (pn := 1052) X d_Lw_law_1051 ?_
                                obtain ⟨σ179, v180, hσ179, hf⟩ := bd2_E hf
                                obtain ⟨hσ179, mσ179⟩ := ho_ck_E hσ179
                                refine hw_callS (pn := 1055) X d_Lw_law_1052 (c_Lw_releasedByte _ hlt _ N σ a1 v176 v177 v178 a3 _ _ hσ179) q_4_23 q_1_0 q_4_22 q_4_21 ⟨by decide, by decide⟩ ar_Lw_releasedByte (by decide) (by decide) mσ179 (Nat.le_of_ble_eq_true rfl) ?_
                                refine hv_istore (pn := 1057) (i := 5) (lo' := [some (.ref a0), some (.ref a1), some (.ref a2), some (.ref a3), some (.int x4), some (.int v180), none]) X d_Lw_law_1055 ?_
                                refine hv_aload_n (pn := 1058) X d_Lw_law_1057 ?_
                                refine hv_aload_n (pn := 1059) X d_Lw_law_1058 ?_
                                refine hv_iload (pn := 1061) X d_Lw_law_1059 ?_
                                refine hv_iconst (pn := 1062) (v := 1) X d_Lw_law_1061 ?_
                                refine hv_iadd (pn := 1063) X d_Lw_law_1062 ?_
                                obtain ⟨v181, hv181, hf⟩ := bd_E hf
                                refine hv_iald (pn := 1064) X d_Lw_law_1063 hv181 ?_
                                refine hv_aload_n (pn := 1065) X d_Lw_law_1064 ?_
                                refine hv_iload (pn := 1067) X d_Lw_law_1065 ?_
                                refine hv_iconst (pn := 1068) (v := 2) X d_Lw_law_1067 ?_
                                refine hv_iadd (pn := 1069) X d_Lw_law_1068 ?_
                                obtain ⟨v182, hv182, hf⟩ := bd_E hf
                                refine hv_iald (pn := 1070) X d_Lw_law_1069 hv182 ?_
                                refine hv_aload_n (pn := 1071) X d_Lw_law_1070 ?_
                                refine hv_iload (pn := 1073) X d_Lw_law_1071 ?_
                                refine hv_iconst (pn := 1074) (v := 3) X d_Lw_law_1073 ?_
                                refine hv_iadd (pn := 1075) X d_Lw_law_1074 ?_
                                obtain ⟨v183, hv183, hf⟩ := bd_E hf
                                refine hv_iald (pn := 1076) X d_Lw_law_1075 hv183 ?_
                                obtain ⟨_, hr184, hf⟩ := bd_E hf
                                obtain ⟨σ185, v186, hσ185, hf⟩ := bd2_E hf
                                obtain ⟨hσ185, mσ185⟩ := ho_ck_E hσ185
                                refine hv_callV (pn := 1079) X d_Lw_law_1076 (c_Md_releasedByte _ _ N σ179 a2 v181 v182 v183 _ _ hσ185) cs_Lw_129 q_5_155 rfl q_5_156 hr184 (by decide) (by decide) mσ185 (Nat.le_of_ble_eq_true rfl) ?_
                                refine hv_istore (pn := 1081) (i := 6) (lo' := [some (.ref a0), some (.ref a1), some (.ref a2), some (.ref a3), some (.int x4), some (.int v180), some (.int v186)]) X d_Lw_law_1079 ?_
                                refine hv_aload_n (pn := 1082) X d_Lw_law_1081 ?_
                                obtain ⟨_, hr187, hf⟩ := bd_E hf
                                obtain ⟨v188, hv188, hf⟩ := bd_E hf
                                refine hv_callV (pn := 1085) X d_Lw_law_1082 (c_Md_thrown _ _ N σ185 a2 _ hv188) cs_Lw_82 q_4_234 rfl q_4_235 hr187 (by decide) (by decide) ⟨Nat.le_refl _, Nat.le_refl _⟩ (Nat.le_of_ble_eq_true rfl) ?_
                                refine hv_iload (pn := 1087) X d_Lw_law_1085 ?_
                                refine hv_icmp_eq (pn := 1090) (tgt := 1092) X d_Lw_law_1087 (by decide) (fun hc => ?_) (fun hc => ?_)
                                · rw [if_pos hc] at hf
                                  refine hv_iload (pn := 1094) X d_Lw_law_1092 ?_
                                  refine hv_if_ne (pn := 1097) (tgt := 1109) X d_Lw_law_1094 (by decide) (fun hc => ?_) (fun hc => ?_)
                                  · rw [if_pos hc] at hf
                                    refine hv_drop (i := 5) (lo' := [some (.ref a0), some (.ref a1), some (.ref a2), some (.ref a3), some (.int x4), none, some (.int v186)]) ?_
                                    refine hv_drop (i := 6) (lo' := [some (.ref a0), some (.ref a1), some (.ref a2), some (.ref a3), some (.int x4), none, none]) ?_
                                    exact w_Lw_law_j1109_in53 X hlt N σ185 a0 a1 a2 a3 x4  _ hf E
                                  · rw [if_neg hc] at hf
                                    refine hv_aload_n (pn := 1098) X d_Lw_law_1097 ?_
                                    refine hv_iconst (pn := 1099) (v := 0) X d_Lw_law_1098 ?_
                                    obtain ⟨v189, hv189, hf⟩ := bd_E hf
                                    refine hv_lald (pn := 1100) X d_Lw_law_1099 hv189 ?_
                                    refine hv_iload (pn := 1102) X d_Lw_law_1100 ?_
                                    refine hv_i2l (pn := 1103) X d_Lw_law_1102 ?_
                                    refine hv_lcmp (pn := 1104) X d_Lw_law_1103 ?_
                                    refine hv_if_eq (pn := 1107) (tgt := 1109) X d_Lw_law_1104 (by decide) (fun hc => ?_) (fun hc => ?_)
                                    · rw [if_pos hc] at hf
                                      refine hv_drop (i := 5) (lo' := [some (.ref a0), some (.ref a1), some (.ref a2), some (.ref a3), some (.int x4), none, some (.int v186)]) ?_
                                      refine hv_drop (i := 6) (lo' := [some (.ref a0), some (.ref a1), some (.ref a2), some (.ref a3), some (.int x4), none, none]) ?_
                                      exact w_Lw_law_j1109_in53 X hlt N σ185 a0 a1 a2 a3 x4  _ hf E
                                    · rw [if_neg hc] at hf
                                      refine hv_iconst (pn := 1108) (v := 0) X d_Lw_law_1107 ?_
                                      cases hf
                                      exact hl_ret X d_Lw_law_1108 E
                                · rw [if_neg hc] at hf
                                  refine hv_iconst (pn := 1091) (v := 0) X d_Lw_law_1090 ?_
                                  cases hf
                                  exact hl_ret X d_Lw_law_1091 E
                              · rw [if_neg hs17_13] at hf
                                by_cases hs17_14 : (v16 &&& 15) = 14
                                · rw [if_pos hs17_14] at hf
                                  refine hv_tsw_in (n := 14) (off := 1042) (tgt := 1112) X d_Lw_law_70 (by rw [hs17_14]; decide) (by decide) (by decide) (by decide) (by decide) ?_
                                  refine hv_aload_n (pn := 1113) X d_Lw_law_1112 ?_
                                  refine hv_aload_n (pn := 1114) X d_Lw_law_1113 ?_
                                  refine hv_iload (pn := 1116) X d_Lw_law_1114 ?_
                                  refine hv_iconst (pn := 1117) (v := 1) X d_Lw_law_1116 ?_
                                  refine hv_iadd (pn := 1118) X d_Lw_law_1117 ?_
                                  obtain ⟨v190, hv190, hf⟩ := bd_E hf
                                  refine hv_iald (pn := 1119) X d_Lw_law_1118 hv190 ?_
                                  obtain ⟨_, hr191, hf⟩ := bd_E hf
                                  obtain ⟨v192, hv192, hf⟩ := bd_E hf
                                  refine hv_callV (pn := 1122) X d_Lw_law_1119 (c_Of_count _ _ N σ a1 v190 _ hv192) cs_Lw_130 q_1_194 rfl q_1_195 hr191 (by decide) (by decide) ⟨Nat.le_refl _, Nat.le_refl _⟩ (Nat.le_of_ble_eq_true rfl) ?_
                                  refine hv_aload_n (pn := 1123) X d_Lw_law_1122 ?_
                                  refine hv_aload_n (pn := 1124) X d_Lw_law_1123 ?_
                                  refine hv_iload (pn := 1126) X d_Lw_law_1124 ?_
                                  refine hv_iconst (pn := 1127) (v := 1) X d_Lw_law_1126 ?_
                                  refine hv_iadd (pn := 1128) X d_Lw_law_1127 ?_
                                  obtain ⟨v193, hv193, hf⟩ := bd_E hf
                                  refine hv_iald (pn := 1129) X d_Lw_law_1128 hv193 ?_
                                  obtain ⟨_, hr194, hf⟩ := bd_E hf
                                  obtain ⟨σ195, v196, hσ195, hf⟩ := bd2_E hf
                                  obtain ⟨hσ195, mσ195⟩ := ho_ck_E hσ195
                                  refine hv_callV (pn := 1132) X d_Lw_law_1129 (c_Md_count _ _ N σ a2 v193 _ _ hσ195) cs_Lw_133 q_5_159 rfl q_5_160 hr194 (by decide) (by decide) mσ195 (Nat.le_of_ble_eq_true rfl) ?_
                                  refine hv_icmp_eq (pn := 1135) (tgt := 1137) X d_Lw_law_1132 (by decide) (fun hc => ?_) (fun hc => ?_)
                                  · rw [if_pos hc] at hf
                                    exact w_Lw_law_j1137_in53 X hlt N σ195 a0 a1 a2 a3 x4  _ hf E
                                  · rw [if_neg hc] at hf
                                    refine hv_iconst (pn := 1136) (v := 0) X d_Lw_law_1135 ?_
                                    cases hf
                                    exact hl_ret X d_Lw_law_1136 E
                                · rw [if_neg hs17_14] at hf
                                  refine hv_tsw_out (tgt := 1137) X d_Lw_law_70 (sw_out2 (a := 0) (n := 15) (by decide) (fun j hj => by match j, hj with | 0, _ => exact hs17_0 | 1, _ => exact hs17_1 | 2, _ => exact hs17_2 | 3, _ => exact hs17_3 | 4, _ => exact hs17_4 | 5, _ => exact hs17_5 | 6, _ => exact hs17_6 | 7, _ => exact hs17_7 | 8, _ => exact hs17_8 | 9, _ => exact hs17_9 | 10, _ => exact hs17_10 | 11, _ => exact hs17_11 | 12, _ => exact hs17_12 | 13, _ => exact hs17_13 | 14, _ => exact hs17_14 | q + 15, h => exact absurd h (by omega))) (by decide) ?_
                                  exact w_Lw_law_j1137_in53 X hlt N σ a0 a1 a2 a3 x4  _ hf E
set_option maxHeartbeats 4000000 in
set_option maxRecDepth 100000 in
theorem w_law {k : mk_T} (X : hv_X k b_Lw_law y_Lw_law.cls 7 12 312 (some .boolean) y_Lw_law.name) (hlt : k.1.2.1.stackTraces = false) (N : Nat) (σ : ho_H) (a0 : Nat) (r : ho_H × Int32) (hf : f_Lw_law k.2.1 N σ a0 = some r) (E : hl_end k r.1 r.2) : hv_V k σ 0 [some (.ref a0), none, none, none, none, none, none] [] := by
  unfold f_Lw_law at hf
  obtain ⟨σ1, b2, hσ1, hf⟩ := bd2_E hf
  refine hv_new (pn := 3) X d_Lw_law_0 nw_Lw_8 hσ1 ?_
  refine hv_dup (pn := 4) X d_Lw_law_3 rfl ?_
  refine hv_aload_n (pn := 5) X d_Lw_law_4 ?_
  refine hv_iconst (pn := 6) (v := 0) X d_Lw_law_5 ?_
  obtain ⟨v3, hv3, hf⟩ := bd_E hf
  refine hv_callS (pn := 9) X d_Lw_law_6 (c_Lw_cell _ _ N σ1 a0 0 _ hv3) cs_Lw_66 q_1_206 (by decide) (by decide) ⟨Nat.le_refl _, Nat.le_refl _⟩ (Nat.le_of_ble_eq_true rfl) ?_
  refine hv_aload_n (pn := 10) X d_Lw_law_9 ?_
  refine hv_iconst (pn := 11) (v := 1) X d_Lw_law_10 ?_
  obtain ⟨v4, hv4, hf⟩ := bd_E hf
  refine hv_callS (pn := 14) X d_Lw_law_11 (c_Lw_cell _ _ N σ1 a0 1 _ hv4) cs_Lw_66 q_1_206 (by decide) (by decide) ⟨Nat.le_refl _, Nat.le_refl _⟩ (Nat.le_of_ble_eq_true rfl) ?_
  refine hv_aload_n (pn := 15) X d_Lw_law_14 ?_
  refine hv_iconst (pn := 16) (v := 2) X d_Lw_law_15 ?_
  obtain ⟨v5, hv5, hf⟩ := bd_E hf
  refine hv_callS (pn := 19) X d_Lw_law_16 (c_Lw_cell _ _ N σ1 a0 2 _ hv5) cs_Lw_66 q_1_206 (by decide) (by decide) ⟨Nat.le_refl _, Nat.le_refl _⟩ (Nat.le_of_ble_eq_true rfl) ?_
  obtain ⟨σ6, hσ6, hf⟩ := bd_E hf
  obtain ⟨hσ6, mσ6⟩ := ho_cv_E hσ6
  refine hv_callI (pn := 22) X d_Lw_law_19 (c_Of_init _ _ N σ1 b2 v3 v4 v5 _ hσ6) cs_Lw_72 rfl q_1_27 (by decide) (by decide) mσ6 (Nat.le_of_ble_eq_true rfl) ?_
  refine hv_astore_n (pn := 23) (i := 1) (lo' := [some (.ref a0), some (.ref b2), none, none, none, none, none]) X d_Lw_law_22 ?_
  obtain ⟨σ7, b8, hσ7, hf⟩ := bd2_E hf
  refine hv_new (pn := 26) X d_Lw_law_23 nw_Lw_75 hσ7 ?_
  refine hv_dup (pn := 27) X d_Lw_law_26 rfl ?_
  refine hv_aload_n (pn := 28) X d_Lw_law_27 ?_
  refine hv_iconst (pn := 29) (v := 0) X d_Lw_law_28 ?_
  obtain ⟨v9, hv9, hf⟩ := bd_E hf
  refine hv_callS (pn := 32) X d_Lw_law_29 (c_Lw_cell _ _ N σ7 a0 0 _ hv9) cs_Lw_66 q_1_206 (by decide) (by decide) ⟨Nat.le_refl _, Nat.le_refl _⟩ (Nat.le_of_ble_eq_true rfl) ?_
  refine hv_aload_n (pn := 33) X d_Lw_law_32 ?_
  refine hv_iconst (pn := 34) (v := 1) X d_Lw_law_33 ?_
  obtain ⟨v10, hv10, hf⟩ := bd_E hf
  refine hv_callS (pn := 37) X d_Lw_law_34 (c_Lw_cell _ _ N σ7 a0 1 _ hv10) cs_Lw_66 q_1_206 (by decide) (by decide) ⟨Nat.le_refl _, Nat.le_refl _⟩ (Nat.le_of_ble_eq_true rfl) ?_
  refine hv_aload_n (pn := 38) X d_Lw_law_37 ?_
  refine hv_iconst (pn := 39) (v := 2) X d_Lw_law_38 ?_
  obtain ⟨v11, hv11, hf⟩ := bd_E hf
  refine hv_callS (pn := 42) X d_Lw_law_39 (c_Lw_cell _ _ N σ7 a0 2 _ hv11) cs_Lw_66 q_1_206 (by decide) (by decide) ⟨Nat.le_refl _, Nat.le_refl _⟩ (Nat.le_of_ble_eq_true rfl) ?_
  obtain ⟨σ12, hσ12, hf⟩ := bd_E hf
  obtain ⟨hσ12, mσ12⟩ := ho_cv_E hσ12
  refine hv_callI (pn := 45) X d_Lw_law_42 (c_Md_init _ _ N σ7 b8 v9 v10 v11 _ hσ12) cs_Lw_77 rfl q_4_31 (by decide) (by decide) mσ12 (Nat.le_of_ble_eq_true rfl) ?_
  refine hv_astore_n (pn := 46) (i := 2) (lo' := [some (.ref a0), some (.ref b2), some (.ref b8), none, none, none, none]) X d_Lw_law_45 ?_
  refine hv_iconst (pn := 47) (v := 1) X d_Lw_law_46 ?_
  obtain ⟨σ13, b14, hσ13, hf⟩ := bd2_E hf
  refine hv_nwL (pn := 49) X d_Lw_law_47 q_5_162 hσ13 ?_
  refine hv_astore_n (pn := 50) (i := 3) (lo' := [some (.ref a0), some (.ref b2), some (.ref b8), some (.ref b14), none, none, none]) X d_Lw_law_49 ?_
  refine hv_iconst (pn := 51) (v := 3) X d_Lw_law_50 ?_
  refine hv_istore (pn := 53) (i := 4) (lo' := [some (.ref a0), some (.ref b2), some (.ref b8), some (.ref b14), some (.int 3), none, none]) X d_Lw_law_51 ?_
  obtain ⟨e198, he199, hf⟩ := bd_E hf
  refine hv_loop (P := fun s => hv_V k s.1 53 [some (.ref a0), some (.ref b2), some (.ref b8), some (.ref b14), some (.int s.2), none, none] []) (Z := sm (fun s => hv_V k s 1143 [none, none, none, none, none, none, none] []) (fun z => hl_end k z.1 z.2)) (fun s r h1 h2 => by obtain ⟨σ, x4⟩ := s; exact w_Lw_law_l53 X hlt N a0 b2 b8 b14 σ x4 r h1 h2) N (σ13, 3) e198 he199 ?_
  rcases e198 with σ197 | z
  · try dsimp only [sm, sm_e] at hf ⊢
    refine hv_iconst (pn := 1144) (v := 1) X d_Lw_law_1143 ?_
    cases hf
    exact hl_ret X d_Lw_law_1144 E
  · cases (show some _ = some _ from hf); exact E
