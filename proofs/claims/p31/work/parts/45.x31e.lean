set_option maxHeartbeats 4000000 in
set_option maxRecDepth 100000 in
theorem law_fin {pQ : Program} {lQ : Launch} {eQ : Env} {s : State} {mQ : MethodId} {below : List Frame} {meth : Method} {cQ : Code} {D : va_G} {kA : Nat → ClassId} {A : Nat → Prop} {b : Nat} {mq : Nat} {q : Nat → Nat} {qc : Nat → Nat} {qp : Nat → Nat} {hq : Nat → Nat} {qs : Nat → Nat} {x : SC9} {adK adV : Nat → Nat} {L : Nat} {zs : Nat → Int32} (hnt : lQ.stackTraces = false) (hx : pQ.tables.exec = Jvm.exec) (hb : cQ.code = cL_law) (hown : s.vm.findClass RL = some mQ.cls) (hts : ∀ w ∈ wsL_law, w.before #[Value.ref b] s = true) (hS0 : CallFix pQ mQ cQ cL_law 17 s #[Value.ref b] wsL_law RL) (hX : va_X b L zs s s.heap) (hbl : b < s.heap.size) (hbA : ¬ A b) (hA : ∀ q : Nat, s.heap.size ≤ q → A q) (hK : va_K D vwCl (tyK kA) s) (hE : evS adK adV A s s.heap) (hXW : xwS s) (hL : L ≤ 260) (hr : meth.sig.returnType = ret) (hlocks : meth.locks = false) (hAI : ∀ q : Nat, A q → s.heap.size ≤ q) (t : TCt) (cnt : Nat) (sv : Nat → TSt) (z : ZC) (hok : okT t) (hz : zOK t z) (hcn : cnt ≤ 4) (hcc0 : 0 < ccT t) (had : adT t ≤ 22) (H : Heap) (locs : List Loc) (hP : va_P D vwCl (wA kA mq q qc qp hq qs t cnt sv z x) H) (hD : va_D A (wA kA mq q qc qp hq qs t cnt sv z x)) (hS : va_S A s.heap H locs) (ls : Array Slot) (hl : lv_has ls 17 [(2, .int (nI 1)), (1, .ref mq), (0, .ref b)]) : W pQ lQ eQ room_1 s mQ #[Value.ref b] below meth cQ H locs (52 + 2 * 22) (13027 + 12 * 22) (lw_Z below #[Value.ref b] s) (F0 mQ 739 ls []) := by
  have hcc := okT_cc hok
  have hrc := okT_rc hok
  have hnc := okT_nC hok
  have had9 := hok.2.2.2.1
  have hnp : 0 < nCs t := prodF_pos (okT_ac hok)
  have k16 : (Cond.constant RL 16 (-2000001)).before #[Value.ref b] s = true := hts _ kL16
  have k19 : (Cond.constant RL 19 (-2000002)).before #[Value.ref b] s = true := hts _ kL19
  refine lv_iload_n hx hb dL_law_739 rfl (lv_at hl 0 rfl) ?_
  refine lv_if_eq (tgt := 819) hx hb dL_law_740 (by decide) (fun h => absurd h (by decide)) (fun _ => ?_)
  refine lv_aload_n hx hb dL_law_743 rfl (lv_at hl 1 rfl) ?_
  refine lv_iconst (v := (nI 0)) hx hb dL_law_744 (by decide) ?_
  refine lv_iconst (v := (nI 0)) hx hb dL_law_745 (by decide) ?_
  refine n_wSiX (As := [.ref mq, .int (nI 0), .int (nI 0)]) (rest := []) (wr := []) (ws' := fun u => (wA kA mq q qc qp hq qs t cnt sv u x)) hS0 (w_ar1 lQ D kA adK adV mq q qc qp hq qs t cnt sv z x (nI 0) (nI 0) H.size hnt (by first | assumption | omega) (by first | assumption | omega) (by first | assumption | omega) (by rw [are_no0 hok hcc0, Bool.and_false])) (vx_cwSW 3 hts gL_law_L_adds rfl rfl rfl (by decide +kernel) ⟨Nat.le_of_ble_eq_true rfl, Nat.le_of_ble_eq_true rfl⟩) hP hD hS hE hXW hA hK hK (by simpa only [List.append_assoc, List.append_nil] using (List.Perm.of_eq (List.append_nil _).symm)) (fun u => List.Perm.symm (by simpa only [List.append_assoc, List.append_nil] using (List.Perm.of_eq (List.append_nil _).symm))) rfl rfl hl.1 (Nat.le_of_ble_eq_true rfl) dL_law_746 (rm1 (by omega) (by omega)) (fun r746 u746 H locs h746 hP hD hS => ?_)
  obtain ⟨z1_746, rfl⟩ : ∃ z, z = u746 := ⟨_, rfl⟩
  obtain ⟨rfl, h746_1⟩ := h746
  have hP : va_P D vwCl (wA kA mq q qc qp hq qs t cnt sv z1_746 x) H := hP
  have hD : va_D A (wA kA mq q qc qp hq qs t cnt sv z1_746 x) := hD
  refine lv_ldc (v := (-2000001)) hx hb hown k16 dL_law_749 ?_
  refine lv_icmp_ne (tgt := 819) hx hb dL_law_751 (by decide) (fun c751 => ?_) (fun c751 => ?_)
  · exact absurd rfl c751
  · refine lv_aload_n hx hb dL_law_754 rfl (lv_at hl 1 rfl) ?_
    refine lv_iconst (v := (oI none)) hx hb dL_law_755 (by decide) ?_
    refine lv_iconst (v := (nI 0)) hx hb dL_law_756 (by decide) ?_
    refine n_wSiX (As := [.ref mq, .int (oI none), .int (nI 0)]) (rest := []) (wr := []) (ws' := fun u => (wA kA mq q qc qp hq qs t cnt sv u x)) hS0 (w_ar1 lQ D kA adK adV mq q qc qp hq qs t cnt sv z1_746 x (oI none) (nI 0) H.size hnt (by first | assumption | omega) (by first | assumption | omega) (by first | assumption | omega) (by rw [are_neg, Bool.and_false])) (vx_cwSW 3 hts gL_law_L_adds rfl rfl rfl (by decide +kernel) ⟨Nat.le_of_ble_eq_true rfl, Nat.le_of_ble_eq_true rfl⟩) hP hD hS hE hXW hA hK hK (by simpa only [List.append_assoc, List.append_nil] using (List.Perm.of_eq (List.append_nil _).symm)) (fun u => List.Perm.symm (by simpa only [List.append_assoc, List.append_nil] using (List.Perm.of_eq (List.append_nil _).symm))) rfl rfl hl.1 (Nat.le_of_ble_eq_true rfl) dL_law_757 (rm1 (by omega) (by omega)) (fun r757 u757 H locs h757 hP hD hS => ?_)
    obtain ⟨z1_757, rfl⟩ : ∃ z, z = u757 := ⟨_, rfl⟩
    obtain ⟨rfl, h757_1⟩ := h757
    have hP : va_P D vwCl (wA kA mq q qc qp hq qs t cnt sv z1_757 x) H := hP
    have hD : va_D A (wA kA mq q qc qp hq qs t cnt sv z1_757 x) := hD
    refine lv_ldc (v := (-2000001)) hx hb hown k16 dL_law_760 ?_
    refine lv_icmp_ne (tgt := 819) hx hb dL_law_762 (by decide) (fun c762 => ?_) (fun c762 => ?_)
    · exact absurd rfl c762
    · refine lv_aload_n hx hb dL_law_765 rfl (lv_at hl 1 rfl) ?_
      refine lv_aload_n hx hb dL_law_766 rfl (lv_at hl 1 rfl) ?_
      refine lv_iconst (v := (nI 1)) hx hb dL_law_767 (by decide) ?_
      refine n_wSiE (As := [.ref mq, .int (nI 1)]) (rest := [.ref mq]) (wr := []) (ws' := fun u => (wA kA mq q qc qp hq qs t cnt sv u.1 x)) hS0 (c_L_setsBy lQ D kA adK adV mq q qc qp hq qs t cnt sv z1_757 x 1 H.size (by first | assumption | omega) (by first | assumption | omega) (by decide)) (va_cwS 2 hts gL_law_L_setsBy rfl rfl rfl (by decide +kernel) ⟨Nat.le_of_ble_eq_true rfl, Nat.le_of_ble_eq_true rfl⟩) hP hD hS hE hA hK hK (by simpa only [List.append_assoc, List.append_nil] using (List.Perm.of_eq (List.append_nil _).symm)) (fun u => List.Perm.symm (by simpa only [List.append_assoc, List.append_nil] using (List.Perm.of_eq (List.append_nil _).symm))) rfl rfl hl.1 (Nat.le_of_ble_eq_true rfl) dL_law_768 (rm1 (by omega) (by omega)) (fun r768 u768 H locs h768 hP hD hS => ?_)
      obtain ⟨z1_768, s1_768⟩ := u768
      obtain ⟨rfl, h768_1, h768_2⟩ := h768
      try dsimp only at h768_1 h768_2
      have hP : va_P D vwCl (wA kA mq q qc qp hq qs t cnt sv z1_768 x) H := hP
      have hD : va_D A (wA kA mq q qc qp hq qs t cnt sv z1_768 x) := hD
      refine lv_bipush (v := (nI 10)) hx hb dL_law_771 (by decide) ?_
      refine n_wSiX (As := [.ref mq, .int (nI s1_768), .int (nI 10)]) (rest := []) (wr := []) (ws' := fun u => (wA kA mq q qc qp hq qs t cnt sv u x)) hS0 (w_ar1 lQ D kA adK adV mq q qc qp hq qs t cnt sv z1_768 x (nI s1_768) (nI 10) H.size hnt (by first | assumption | omega) (by first | assumption | omega) (by first | assumption | omega) (by rw [show isActB (nI 10) = false by decide +kernel]; rfl)) (vx_cwSW 3 hts gL_law_L_adds rfl rfl rfl (by decide +kernel) ⟨Nat.le_of_ble_eq_true rfl, Nat.le_of_ble_eq_true rfl⟩) hP hD hS hE hXW hA hK hK (by simpa only [List.append_assoc, List.append_nil] using (List.Perm.of_eq (List.append_nil _).symm)) (fun u => List.Perm.symm (by simpa only [List.append_assoc, List.append_nil] using (List.Perm.of_eq (List.append_nil _).symm))) rfl rfl hl.1 (Nat.le_of_ble_eq_true rfl) dL_law_773 (rm1 (by omega) (by omega)) (fun r773 u773 H locs h773 hP hD hS => ?_)
      obtain ⟨z1_773, rfl⟩ : ∃ z, z = u773 := ⟨_, rfl⟩
      obtain ⟨rfl, h773_1⟩ := h773
      have hP : va_P D vwCl (wA kA mq q qc qp hq qs t cnt sv z1_773 x) H := hP
      have hD : va_D A (wA kA mq q qc qp hq qs t cnt sv z1_773 x) := hD
      refine lv_ldc (v := (-2000001)) hx hb hown k16 dL_law_776 ?_
      refine lv_icmp_ne (tgt := 819) hx hb dL_law_778 (by decide) (fun c778 => ?_) (fun c778 => ?_)
      · exact absurd rfl c778
      · refine lv_aload_n hx hb dL_law_781 rfl (lv_at hl 1 rfl) ?_
        refine lv_iconst (v := (nI 5)) hx hb dL_law_782 (by decide) ?_
        refine lv_iconst (v := (nI 1)) hx hb dL_law_783 (by decide) ?_
        refine n_wSiX (As := [.ref mq, .int (nI 5), .int (nI 1)]) (rest := []) (wr := []) (ws' := fun u => (wA kA mq q qc qp hq qs t cnt sv u x)) hS0 (w_cd1 lQ D kA adK adV mq q qc qp hq qs t cnt sv z1_773 x H.size hnt (by first | assumption | omega) (by first | assumption | omega) (by first | assumption | omega)) (vx_cwSW 3 hts gL_law_L_conditions rfl rfl rfl (by decide +kernel) ⟨Nat.le_of_ble_eq_true rfl, Nat.le_of_ble_eq_true rfl⟩) hP hD hS hE hXW hA hK hK (by simpa only [List.append_assoc, List.append_nil] using (List.Perm.of_eq (List.append_nil _).symm)) (fun u => List.Perm.symm (by simpa only [List.append_assoc, List.append_nil] using (List.Perm.of_eq (List.append_nil _).symm))) rfl rfl hl.1 (Nat.le_of_ble_eq_true rfl) dL_law_784 (rm1 (by omega) (by omega)) (fun r784 u784 H locs h784 hP hD hS => ?_)
        obtain ⟨z1_784, rfl⟩ : ∃ z, z = u784 := ⟨_, rfl⟩
        obtain ⟨rfl, h784_1⟩ := h784
        have hP : va_P D vwCl (wA kA mq q qc qp hq qs t cnt sv z1_784 x) H := hP
        have hD : va_D A (wA kA mq q qc qp hq qs t cnt sv z1_784 x) := hD
        refine lv_ldc (v := (-2000001)) hx hb hown k16 dL_law_787 ?_
        refine lv_icmp_ne (tgt := 819) hx hb dL_law_789 (by decide) (fun c789 => ?_) (fun c789 => ?_)
        · exact absurd rfl c789
        · refine lv_aload_n hx hb dL_law_792 rfl (lv_at hl 1 rfl) ?_
          refine lv_iconst (v := (nI 5)) hx hb dL_law_793 (by decide) ?_
          refine lv_iconst (v := (nI 1)) hx hb dL_law_794 (by decide) ?_
          refine n_wSiX (As := [.ref mq, .int (nI 5), .int (nI 1)]) (rest := []) (wr := []) (ws' := fun u => (wA kA mq q qc qp hq qs t cnt sv u x)) hS0 (w_sc1 lQ D kA adK adV mq q qc qp hq qs t cnt sv z1_784 x H.size hnt (by first | assumption | omega) (by first | assumption | omega) (by first | assumption | omega)) (vx_cwSW 3 hts gL_law_L_costs rfl rfl rfl (by decide +kernel) ⟨Nat.le_of_ble_eq_true rfl, Nat.le_of_ble_eq_true rfl⟩) hP hD hS hE hXW hA hK hK (by simpa only [List.append_assoc, List.append_nil] using (List.Perm.of_eq (List.append_nil _).symm)) (fun u => List.Perm.symm (by simpa only [List.append_assoc, List.append_nil] using (List.Perm.of_eq (List.append_nil _).symm))) rfl rfl hl.1 (Nat.le_of_ble_eq_true rfl) dL_law_795 (rm1 (by omega) (by omega)) (fun r795 u795 H locs h795 hP hD hS => ?_)
          obtain ⟨z1_795, rfl⟩ : ∃ z, z = u795 := ⟨_, rfl⟩
          obtain ⟨rfl, h795_1⟩ := h795
          have hP : va_P D vwCl (wA kA mq q qc qp hq qs t cnt sv z1_795 x) H := hP
          have hD : va_D A (wA kA mq q qc qp hq qs t cnt sv z1_795 x) := hD
          refine lv_ldc (v := (-2000001)) hx hb hown k16 dL_law_798 ?_
          refine lv_icmp_ne (tgt := 819) hx hb dL_law_800 (by decide) (fun c800 => ?_) (fun c800 => ?_)
          · exact absurd rfl c800
          · refine lv_aload_n hx hb dL_law_803 rfl (lv_at hl 1 rfl) ?_
            refine lv_iconst (v := (nI 0)) hx hb dL_law_804 (by decide) ?_
            refine lv_bipush (v := (nI 10)) hx hb dL_law_805 (by decide) ?_
            refine n_wSiX (As := [.ref mq, .int (nI 0), .int (nI 10)]) (rest := []) (wr := []) (ws' := fun u => (wA kA mq q qc qp hq qs t cnt sv u x)) hS0 (w_sc2 lQ D kA adK adV mq q qc qp hq qs t cnt sv z1_795 x H.size hnt (by first | assumption | omega) (by first | assumption | omega) (by first | assumption | omega) hcc0) (vx_cwSW 3 hts gL_law_L_costs rfl rfl rfl (by decide +kernel) ⟨Nat.le_of_ble_eq_true rfl, Nat.le_of_ble_eq_true rfl⟩) hP hD hS hE hXW hA hK hK (by simpa only [List.append_assoc, List.append_nil] using (List.Perm.of_eq (List.append_nil _).symm)) (fun u => List.Perm.symm (by simpa only [List.append_assoc, List.append_nil] using (List.Perm.of_eq (List.append_nil _).symm))) rfl rfl hl.1 (Nat.le_of_ble_eq_true rfl) dL_law_807 (rm1 (by omega) (by omega)) (fun r807 u807 H locs h807 hP hD hS => ?_)
            obtain ⟨z1_807, rfl⟩ : ∃ z, z = u807 := ⟨_, rfl⟩
            obtain ⟨rfl, h807_1⟩ := h807
            have hP : va_P D vwCl (wA kA mq q qc qp hq qs t cnt sv z1_807 x) H := hP
            have hD : va_D A (wA kA mq q qc qp hq qs t cnt sv z1_807 x) := hD
            refine lv_ldc (v := (-2000002)) hx hb hown k19 dL_law_810 ?_
            refine lv_icmp_ne (tgt := 819) hx hb dL_law_812 (by decide) (fun c812 => ?_) (fun c812 => ?_)
            · exact absurd rfl c812
            · refine lv_iconst (v := (nI 1)) hx hb dL_law_815 (by decide) ?_
              refine lv_goto (tgt := 820) hx hb dL_law_816 (by decide) ?_
              refine lv_istore_n (lv' := [(2, .int (nI 1)), (1, .ref mq), (0, .ref b)]) hx hb dL_law_820 rfl hl (by decide) rfl (fun ls hl => ?_)
              refine lv_iload_n hx hb dL_law_821 rfl (lv_at hl 0 rfl) ?_
              refine lv_if_eq (tgt := 862) hx hb dL_law_822 (by decide) (fun h => absurd h (by decide)) (fun _ => ?_)
              refine lv_aload_n hx hb dL_law_825 rfl (lv_at hl 1 rfl) ?_
              refine lv_aload_n hx hb dL_law_826 rfl (lv_at hl 1 rfl) ?_
              refine lv_iconst (v := (nI 1)) hx hb dL_law_827 (by decide) ?_
              refine n_wViE (b := mq) (As := [.int (nI 1)]) (rest := [.ref mq]) (wr := []) (ws' := fun u => (wA kA mq q qc qp hq qs t cnt sv u x)) hS0 (q_wh1 lQ D kA adK adV mq q qc qp hq qs t cnt sv z1_807 x H.size (by first | assumption | omega) (by first | assumption | omega)) (cwV 1 hts gL_law_X5_whole rfl rfl rfl (by decide +kernel) ⟨Nat.le_of_ble_eq_true rfl, Nat.le_of_ble_eq_true rfl⟩) hP hD hS hE hA hK hK (by simpa only [List.append_assoc, List.append_nil] using (List.Perm.of_eq (List.append_nil _).symm)) (fun u => List.Perm.symm (by simpa only [List.append_assoc, List.append_nil] using (List.Perm.of_eq (List.append_nil _).symm))) (q0 := 0) rfl rfl rfl rfl rfl hl.1 (Nat.le_of_ble_eq_true rfl) dL_law_828 (rm1 (by omega) (by omega)) (fun r828 u828 H locs h828 hP hD hS => ?_)
              obtain ⟨z1_828, rfl⟩ : ∃ z, z = u828 := ⟨_, rfl⟩
              obtain ⟨rfl, h828_1⟩ := h828
              have hP : va_P D vwCl (wA kA mq q qc qp hq qs t cnt sv z1_828 x) H := hP
              have hD : va_D A (wA kA mq q qc qp hq qs t cnt sv z1_828 x) := hD
              refine lv_iconst (v := (nI 0)) hx hb dL_law_831 (by decide) ?_
              refine n_wSiX (As := [.ref mq, .int (nI (nCs t)), .int (nI 0)]) (rest := []) (wr := []) (ws' := fun u => (wA kA mq q qc qp hq qs t cnt sv u x)) hS0 (w_ca1 lQ D kA adK adV mq q qc qp hq qs t cnt sv z1_828 x (nCs t) H.size hnt (by first | assumption | omega) (by first | assumption | omega) rfl) (vx_cwSW 3 hts gL_law_L_cases rfl rfl rfl (by decide +kernel) ⟨Nat.le_of_ble_eq_true rfl, Nat.le_of_ble_eq_true rfl⟩) hP hD hS hE hXW hA hK hK (by simpa only [List.append_assoc, List.append_nil] using (List.Perm.of_eq (List.append_nil _).symm)) (fun u => List.Perm.symm (by simpa only [List.append_assoc, List.append_nil] using (List.Perm.of_eq (List.append_nil _).symm))) rfl rfl hl.1 (Nat.le_of_ble_eq_true rfl) dL_law_832 (rm1 (by omega) (by omega)) (fun r832 u832 H locs h832 hP hD hS => ?_)
              obtain ⟨z1_832, rfl⟩ : ∃ z, z = u832 := ⟨_, rfl⟩
              obtain ⟨rfl, h832_1⟩ := h832
              have hP : va_P D vwCl (wA kA mq q qc qp hq qs t cnt sv z1_832 x) H := hP
              have hD : va_D A (wA kA mq q qc qp hq qs t cnt sv z1_832 x) := hD
              refine lv_ldc (v := (-2000001)) hx hb hown k16 dL_law_835 ?_
              refine lv_icmp_ne (tgt := 862) hx hb dL_law_837 (by decide) (fun c837 => ?_) (fun c837 => ?_)
              · exact absurd rfl c837
              · refine lv_aload_n hx hb dL_law_840 rfl (lv_at hl 1 rfl) ?_
                refine lv_iconst (v := (nI 0)) hx hb dL_law_841 (by decide) ?_
                refine lv_iconst (v := (nI 5)) hx hb dL_law_842 (by decide) ?_
                refine n_wSiX (As := [.ref mq, .int (nI 0), .int (nI 5)]) (rest := []) (wr := []) (ws' := fun u => (wA kA mq q qc qp hq qs t cnt sv u x)) hS0 (w_ca2 lQ D kA adK adV mq q qc qp hq qs t cnt sv z1_832 x H.size hnt (by first | assumption | omega) (by first | assumption | omega)) (vx_cwSW 3 hts gL_law_L_cases rfl rfl rfl (by decide +kernel) ⟨Nat.le_of_ble_eq_true rfl, Nat.le_of_ble_eq_true rfl⟩) hP hD hS hE hXW hA hK hK (by simpa only [List.append_assoc, List.append_nil] using (List.Perm.of_eq (List.append_nil _).symm)) (fun u => List.Perm.symm (by simpa only [List.append_assoc, List.append_nil] using (List.Perm.of_eq (List.append_nil _).symm))) rfl rfl hl.1 (Nat.le_of_ble_eq_true rfl) dL_law_843 (rm1 (by omega) (by omega)) (fun r843 u843 H locs h843 hP hD hS => ?_)
                obtain ⟨z1_843, rfl⟩ : ∃ z, z = u843 := ⟨_, rfl⟩
                obtain ⟨rfl, h843_1⟩ := h843
                have hP : va_P D vwCl (wA kA mq q qc qp hq qs t cnt sv z1_843 x) H := hP
                have hD : va_D A (wA kA mq q qc qp hq qs t cnt sv z1_843 x) := hD
                refine lv_ldc (v := (-2000002)) hx hb hown k19 dL_law_846 ?_
                refine lv_icmp_ne (tgt := 862) hx hb dL_law_848 (by decide) (fun c848 => ?_) (fun c848 => ?_)
                · exact absurd rfl c848
                · refine lv_aload_n hx hb dL_law_851 rfl (lv_at hl 1 rfl) ?_
                  refine n_wSiE (As := [.ref mq]) (rest := []) (wr := []) (ws' := fun u => (wA kA mq q qc qp hq qs t cnt sv u x)) hS0 (c_L_holds lQ D kA adK adV mq q qc qp hq qs t cnt sv z1_843 x H.size (by first | assumption | omega) (by first | assumption | omega)) (va_cwS 1 hts gL_law_L_holds rfl rfl rfl (by decide +kernel) ⟨Nat.le_of_ble_eq_true rfl, Nat.le_of_ble_eq_true rfl⟩) hP hD hS hE hA hK hK (by simpa only [List.append_assoc, List.append_nil] using (List.Perm.of_eq (List.append_nil _).symm)) (fun u => List.Perm.symm (by simpa only [List.append_assoc, List.append_nil] using (List.Perm.of_eq (List.append_nil _).symm))) rfl rfl hl.1 (Nat.le_of_ble_eq_true rfl) dL_law_852 (rm1 (by omega) (by omega)) (fun r852 u852 H locs h852 hP hD hS => ?_)
                  obtain ⟨z1_852, rfl⟩ : ∃ z, z = u852 := ⟨_, rfl⟩
                  obtain ⟨rfl, h852_1⟩ := h852
                  have hP : va_P D vwCl (wA kA mq q qc qp hq qs t cnt sv z1_852 x) H := hP
                  have hD : va_D A (wA kA mq q qc qp hq qs t cnt sv z1_852 x) := hD
                  refine lv_if_eq (tgt := 862) hx hb dL_law_855 (by decide) (fun h => absurd h (by decide)) (fun _ => ?_)
                  refine lv_iconst (v := 1) hx hb dL_law_858 (by decide) ?_
                  refine lv_goto (tgt := 863) hx hb dL_law_859 (by decide) ?_
                  refine va_forget (fun q hq => hAI _ (hS.2.2 q hq)) ?_
                  refine W.widen (k := 600130) (n := 7301080) (by omega) (by omega) ?_
                  exact lw_ret hx hb hr hlocks dL_law_863
set_option maxHeartbeats 4000000 in
set_option maxRecDepth 100000 in
theorem law_loop {pQ : Program} {lQ : Launch} {eQ : Env} {s : State} {mQ : MethodId} {below : List Frame} {meth : Method} {cQ : Code} {D : va_G} {kA : Nat → ClassId} {A : Nat → Prop} {b : Nat} {mq : Nat} {q : Nat → Nat} {qc : Nat → Nat} {qp : Nat → Nat} {hq : Nat → Nat} {qs : Nat → Nat} {x : SC9} {adK adV : Nat → Nat} {L : Nat} {zs : Nat → Int32} (hnt : lQ.stackTraces = false) (hx : pQ.tables.exec = Jvm.exec) (hb : cQ.code = cL_law) (hown : s.vm.findClass RL = some mQ.cls) (hts : ∀ w ∈ wsL_law, w.before #[Value.ref b] s = true) (hS0 : CallFix pQ mQ cQ cL_law 17 s #[Value.ref b] wsL_law RL) (hX : va_X b L zs s s.heap) (hbl : b < s.heap.size) (hbA : ¬ A b) (hA : ∀ q : Nat, s.heap.size ≤ q → A q) (hK : va_K D vwCl (tyK kA) s) (hE : evS adK adV A s s.heap) (hXW : xwS s) (hL : L ≤ 260) (hr : meth.sig.returnType = ret) (hlocks : meth.locks = false) (hAI : ∀ q : Nat, A q → s.heap.size ≤ q) : ∀ (n k : Nat), k + n = 22 → lawI pQ lQ eQ s mQ below meth cQ D kA A b mq q qc qp hq qs x k := by
  intro n
  induction n with
  | zero =>
    intro k hk t cnt sv z hok hz hcn hcc0 had H locs hP hD hS ls hl
    obtain rfl : k = 22 := by omega
    refine lv_iload hx hb dL_law_113 (lv_at hl 0 rfl) ?_
    refine lv_bipush (v := (nI 22)) hx hb dL_law_115 (by decide) ?_
    refine lv_icmp_ge (tgt := 739) hx hb dL_law_117 (by decide) (fun _ => ?_) (fun h => absurd (by decide) h)
    have hP : va_P D vwCl (wA kA mq q qc qp hq qs t cnt sv z x) H := hP
    have hD : va_D A (wA kA mq q qc qp hq qs t cnt sv z x) := hD
    refine W.widen (k := (52 + 2 * 22)) (n := (13027 + 12 * 22)) (by omega) (by omega) ?_
    exact law_fin hnt hx hb hown hts hS0 hX hbl hbA hA hK hE hXW hL hr hlocks hAI t cnt sv z hok (by assumption) hcn hcc0 had _ _ hP hD hS _ (lv_sub hl [2, 3, 4] rfl)
  | succ n ih0 =>
    intro k hk t cnt sv z hok hz hcn hcc0 had H locs hP hD hS ls hl
    have hk9 : k < 22 := by omega
    have hcc := okT_cc hok
    have hrc := okT_rc hok
    have hnc := okT_nC hok
    have had9 := hok.2.2.2.1
    have hnp : 0 < nCs t := prodF_pos (okT_ac hok)
    refine lv_iload hx hb dL_law_113 (lv_at hl 0 rfl) ?_
    refine lv_bipush (v := (nI 22)) hx hb dL_law_115 (by decide) ?_
    refine n_icmp_ge (a := k) (b := 22) (tgt := 739) hx hb (by omega) (by omega) dL_law_117 (by decide) (fun c117 => ?_) (fun c117 => ?_)
    · exact absurd c117 (by omega)
    · refine lv_iload_n hx hb dL_law_120 rfl (lv_at hl 2 rfl) ?_
      refine lv_if_eq (tgt := 739) hx hb dL_law_121 (by decide) (fun h => absurd h (by decide)) (fun _ => ?_)
      refine lv_aload_n hx hb dL_law_124 rfl (lv_at hl 4 rfl) ?_
      refine lv_iconst (v := (nI 4)) hx hb dL_law_125 (by decide) ?_
      refine lv_iload hx hb dL_law_126 (lv_at hl 0 rfl) ?_
      refine n_iadd (v := (nI (4 + k))) hx hb (nI_add _ _) dL_law_128 ?_
      refine n_cX (As := [.ref b, .int (nI (4 + k))]) (rest := []) hS0 (c_L_cell lQ b L zs hL (4 + k) (by omega)) (va_cwS 2 hts gL_law_L_cell rfl rfl rfl (by decide +kernel) ⟨Nat.le_of_ble_eq_true rfl, Nat.le_of_ble_eq_true rfl⟩) hX hbl hbA hS rfl rfl hl.1 (Nat.le_of_ble_eq_true rfl) dL_law_129 (rm1 (by omega) (by omega)) (fun r129 h129 => ?_)
      obtain ⟨y129, rfl, hy129⟩ := h129
      refine lv_istore (lv' := [(5, .int (nI y129)), (4, .int (nI k)), (3, .int (nI (ccT t))), (2, .int (nI 1)), (1, .ref mq), (0, .ref b)]) hx hb dL_law_132 hl (by decide) rfl (fun ls hl => ?_)
      refine lv_iload hx hb dL_law_134 (lv_at hl 0 rfl) ?_
      refine lv_bipush (v := (nI 16)) hx hb dL_law_136 (by decide) ?_
      refine n_idiv (v := (nI (y129 / 16))) hx hb (nI_ne0 (by omega) (by omega)) (pk_div (by omega) (by omega) (by omega)) dL_law_138 ?_
      refine lv_istore (lv' := [(6, .int (nI (y129 / 16))), (5, .int (nI y129)), (4, .int (nI k)), (3, .int (nI (ccT t))), (2, .int (nI 1)), (1, .ref mq), (0, .ref b)]) hx hb dL_law_139 hl (by decide) rfl (fun ls hl => ?_)
      refine lv_aload_n hx hb dL_law_141 rfl (lv_at hl 5 rfl) ?_
      refine lv_iconst (v := (nI 2)) hx hb dL_law_142 (by decide) ?_
      refine n_wViE (b := mq) (As := [.int (nI 2)]) (rest := []) (wr := []) (ws' := fun u => (wA kA mq q qc qp hq qs t cnt sv u x)) hS0 (q_wh2 lQ D kA adK adV mq q qc qp hq qs t cnt sv z x H.size (by first | assumption | omega) (by first | assumption | omega)) (cwV 1 hts gL_law_X5_whole rfl rfl rfl (by decide +kernel) ⟨Nat.le_of_ble_eq_true rfl, Nat.le_of_ble_eq_true rfl⟩) hP hD hS hE hA hK hK (by simpa only [List.append_assoc, List.append_nil] using (List.Perm.of_eq (List.append_nil _).symm)) (fun u => List.Perm.symm (by simpa only [List.append_assoc, List.append_nil] using (List.Perm.of_eq (List.append_nil _).symm))) (q0 := 0) rfl rfl rfl rfl rfl hl.1 (Nat.le_of_ble_eq_true rfl) dL_law_143 (rm1 (by omega) (by omega)) (fun r143 u143 H locs h143 hP hD hS => ?_)
      obtain ⟨z1_143, rfl⟩ : ∃ z, z = u143 := ⟨_, rfl⟩
      obtain ⟨rfl, h143_1⟩ := h143
      have hP : va_P D vwCl (wA kA mq q qc qp hq qs t cnt sv z1_143 x) H := hP
      have hD : va_D A (wA kA mq q qc qp hq qs t cnt sv z1_143 x) := hD
      refine lv_istore (lv' := [(7, .int (nI (rcT t))), (6, .int (nI (y129 / 16))), (5, .int (nI y129)), (4, .int (nI k)), (3, .int (nI (ccT t))), (2, .int (nI 1)), (1, .ref mq), (0, .ref b)]) hx hb dL_law_146 hl (by decide) rfl (fun ls hl => ?_)
      refine lv_aload_n hx hb dL_law_148 rfl (lv_at hl 6 rfl) ?_
      refine lv_bipush (v := (nI 10)) hx hb dL_law_149 (by decide) ?_
      refine n_wViE (b := mq) (As := [.int (nI 10)]) (rest := []) (wr := []) (ws' := fun u => (wA kA mq q qc qp hq qs t cnt sv u x)) hS0 (q_wh10 lQ D kA adK adV mq q qc qp hq qs t cnt sv z1_143 x H.size (by first | assumption | omega) (by first | assumption | omega)) (cwV 1 hts gL_law_X5_whole rfl rfl rfl (by decide +kernel) ⟨Nat.le_of_ble_eq_true rfl, Nat.le_of_ble_eq_true rfl⟩) hP hD hS hE hA hK hK (by simpa only [List.append_assoc, List.append_nil] using (List.Perm.of_eq (List.append_nil _).symm)) (fun u => List.Perm.symm (by simpa only [List.append_assoc, List.append_nil] using (List.Perm.of_eq (List.append_nil _).symm))) (q0 := 0) rfl rfl rfl rfl rfl hl.1 (Nat.le_of_ble_eq_true rfl) dL_law_151 (rm1 (by omega) (by omega)) (fun r151 u151 H locs h151 hP hD hS => ?_)
      obtain ⟨z1_151, rfl⟩ : ∃ z, z = u151 := ⟨_, rfl⟩
      obtain ⟨rfl, h151_1⟩ := h151
      have hP : va_P D vwCl (wA kA mq q qc qp hq qs t cnt sv z1_151 x) H := hP
      have hD : va_D A (wA kA mq q qc qp hq qs t cnt sv z1_151 x) := hD
      refine lv_istore (lv' := [(8, .int (nI (adT t))), (7, .int (nI (rcT t))), (6, .int (nI (y129 / 16))), (5, .int (nI y129)), (4, .int (nI k)), (3, .int (nI (ccT t))), (2, .int (nI 1)), (1, .ref mq), (0, .ref b)]) hx hb dL_law_154 hl (by decide) rfl (fun ls hl => ?_)
      refine lv_iload hx hb dL_law_156 (lv_at hl 1 rfl) ?_
      refine n_if_ne (a := rcT t) (tgt := 165) hx hb (by omega) dL_law_158 (by decide) (fun c158 => ?_) (fun c158 => ?_)
      · refine lv_aload_n hx hb dL_law_165 rfl (lv_at hl 7 rfl) ?_
        refine lv_iload hx hb dL_law_166 (lv_at hl 2 rfl) ?_
        refine lv_iload hx hb dL_law_168 (lv_at hl 1 rfl) ?_
        refine n_irem (v := (nI ((y129 / 16) % (rcT t)))) hx hb (nI_ne0 (by omega) (by omega)) (pk_rem (by omega) (by omega) (by omega)) dL_law_170 ?_
        refine n_wViE (b := mq) (As := [.int (nI ((y129 / 16) % (rcT t)))]) (rest := []) (wr := []) (ws' := fun u => (wA kA mq q qc qp hq qs t cnt sv u x)) hS0 (q_ra lQ D kA adK adV mq q qc qp hq qs t cnt sv z1_151 x ((y129 / 16) % (rcT t)) H.size (by first | assumption | omega) (by first | assumption | omega) (Nat.mod_lt _ c158)) (cwV 1 hts gL_law_X5_rowAt rfl rfl rfl (by decide +kernel) ⟨Nat.le_of_ble_eq_true rfl, Nat.le_of_ble_eq_true rfl⟩) hP hD hS hE hA hK hK (by simpa only [List.append_assoc, List.append_nil] using (List.Perm.of_eq (List.append_nil _).symm)) (fun u => List.Perm.symm (by simpa only [List.append_assoc, List.append_nil] using (List.Perm.of_eq (List.append_nil _).symm))) (q0 := 0) rfl rfl rfl rfl rfl hl.1 (Nat.le_of_ble_eq_true rfl) dL_law_171 (rm1 (by omega) (by omega)) (fun r171 u171 H locs h171 hP hD hS => ?_)
        obtain ⟨z1_171, rfl⟩ : ∃ z, z = u171 := ⟨_, rfl⟩
        obtain ⟨rfl, h171_1⟩ := h171
        have hP : va_P D vwCl (wA kA mq q qc qp hq qs t cnt sv z1_171 x) H := hP
        have hD : va_D A (wA kA mq q qc qp hq qs t cnt sv z1_171 x) := hD
        refine lv_istore (lv' := [(9, .int (nI (nmT t ((y129 / 16) % (rcT t))))), (8, .int (nI (adT t))), (7, .int (nI (rcT t))), (6, .int (nI (y129 / 16))), (5, .int (nI y129)), (4, .int (nI k)), (3, .int (nI (ccT t))), (2, .int (nI 1)), (1, .ref mq), (0, .ref b)]) hx hb dL_law_174 hl (by decide) rfl (fun ls hl => ?_)
        refine lv_iload hx hb dL_law_176 (lv_at hl 4 rfl) ?_
        refine lv_bipush (v := (nI 16)) hx hb dL_law_178 (by decide) ?_
        refine n_irem (v := (nI (y129 % 16))) hx hb (nI_ne0 (by omega) (by omega)) (pk_rem (by omega) (by omega) (by omega)) dL_law_180 ?_
        have hsw181 : y129 % 16 < 16 := (Nat.mod_lt _ (by decide))
        rcases (show y129 % 16 = 0 ∨ y129 % 16 = 1 ∨ y129 % 16 = 2 ∨ y129 % 16 = 3 ∨ y129 % 16 = 4 ∨ y129 % 16 = 5 ∨ y129 % 16 = 6 ∨ y129 % 16 = 7 ∨ y129 % 16 = 8 ∨ y129 % 16 = 9 ∨ y129 % 16 = 10 ∨ y129 % 16 = 11 ∨ y129 % 16 = 12 ∨ y129 % 16 = 13 ∨ y129 % 16 = 14 ∨ y129 % 16 = 15 by omega) with e181 | e181 | e181 | e181 | e181 | e181 | e181 | e181 | e181 | e181 | e181 | e181 | e181 | e181 | e181 | e181
        · refine lv_tableIn (tgt := 228) hx hb dL_law_181 (by rw [e181]; decide) (by rw [e181]; decide) (by rw [e181]; rfl) (by decide) ?_
          exact law_drops_r1 hnt hx hb hown hts hS0 hX hbl hbA hA hK hE hXW hL (k := k) (z6 := y129 / 16) hk9 (by omega) (law_join hnt hx hb hown hts hS0 hX hbl hbA hA hK hE hXW hL (k := k) (z6 := y129 / 16) hk9 (by omega) (ih0 (k + 1) (by omega))) hok (by assumption) hcn hcc0 had c158 hP hD hS (lv_sub hl [0, 2, 3, 5, 6, 7, 8, 9] rfl)
        · refine lv_tableIn (tgt := 282) hx hb dL_law_181 (by rw [e181]; decide) (by rw [e181]; decide) (by rw [e181]; rfl) (by decide) ?_
          rcases Nat.eq_zero_or_pos ((y129 / 16) % (rcT t)) with h0 | h0
          · exact law_ups_r1z hnt hx hb hown hts hS0 hX hbl hbA hA hK hE hXW hL (k := k) (z6 := y129 / 16) hk9 (by omega) (law_join hnt hx hb hown hts hS0 hX hbl hbA hA hK hE hXW hL (k := k) (z6 := y129 / 16) hk9 (by omega) (ih0 (k + 1) (by omega))) hok (by assumption) hcn hcc0 had c158 h0 hP hD hS (lv_sub hl [0, 2, 3, 5, 6, 7, 8, 9] rfl)
          · exact law_ups_r1p hnt hx hb hown hts hS0 hX hbl hbA hA hK hE hXW hL (k := k) (z6 := y129 / 16) hk9 (by omega) (law_join hnt hx hb hown hts hS0 hX hbl hbA hA hK hE hXW hL (k := k) (z6 := y129 / 16) hk9 (by omega) (ih0 (k + 1) (by omega))) hok (by assumption) hcn hcc0 had c158 h0 hP hD hS (lv_sub hl [0, 2, 3, 5, 6, 7, 8, 9] rfl)
        · refine lv_tableIn (tgt := 282) hx hb dL_law_181 (by rw [e181]; decide) (by rw [e181]; decide) (by rw [e181]; rfl) (by decide) ?_
          rcases Nat.eq_zero_or_pos ((y129 / 16) % (rcT t)) with h0 | h0
          · exact law_ups_r1z hnt hx hb hown hts hS0 hX hbl hbA hA hK hE hXW hL (k := k) (z6 := y129 / 16) hk9 (by omega) (law_join hnt hx hb hown hts hS0 hX hbl hbA hA hK hE hXW hL (k := k) (z6 := y129 / 16) hk9 (by omega) (ih0 (k + 1) (by omega))) hok (by assumption) hcn hcc0 had c158 h0 hP hD hS (lv_sub hl [0, 2, 3, 5, 6, 7, 8, 9] rfl)
          · exact law_ups_r1p hnt hx hb hown hts hS0 hX hbl hbA hA hK hE hXW hL (k := k) (z6 := y129 / 16) hk9 (by omega) (law_join hnt hx hb hown hts hS0 hX hbl hbA hA hK hE hXW hL (k := k) (z6 := y129 / 16) hk9 (by omega) (ih0 (k + 1) (by omega))) hok (by assumption) hcn hcc0 had c158 h0 hP hD hS (lv_sub hl [0, 2, 3, 5, 6, 7, 8, 9] rfl)
        · refine lv_tableIn (tgt := 330) hx hb dL_law_181 (by rw [e181]; decide) (by rw [e181]; decide) (by rw [e181]; rfl) (by decide) ?_
          exact law_acts_r1 hnt hx hb hown hts hS0 hX hbl hbA hA hK hE hXW hL (k := k) (z6 := y129 / 16) hk9 (by omega) (law_join hnt hx hb hown hts hS0 hX hbl hbA hA hK hE hXW hL (k := k) (z6 := y129 / 16) hk9 (by omega) (ih0 (k + 1) (by omega))) hok (by assumption) hcn hcc0 had c158 hP hD hS (lv_sub hl [0, 2, 3, 5, 6, 7, 8, 9] rfl)
        · refine lv_tableIn (tgt := 386) hx hb dL_law_181 (by rw [e181]; decide) (by rw [e181]; decide) (by rw [e181]; rfl) (by decide) ?_
          exact law_sets_r1 hnt hx hb hown hts hS0 hX hbl hbA hA hK hE hXW hL (k := k) (z6 := y129 / 16) hk9 (by omega) (law_join hnt hx hb hown hts hS0 hX hbl hbA hA hK hE hXW hL (k := k) (z6 := y129 / 16) hk9 (by omega) (ih0 (k + 1) (by omega))) hok (by assumption) hcn hcc0 had c158 hP hD hS (lv_sub hl [0, 2, 3, 5, 6, 7, 8, 9] rfl)
        · refine lv_tableIn (tgt := 483) hx hb dL_law_181 (by rw [e181]; decide) (by rw [e181]; decide) (by rw [e181]; rfl) (by decide) ?_
          exact law_costs hnt hx hb hown hts hS0 hX hbl hbA hA hK hE hXW hL (k := k) (z6 := y129 / 16) hk9 (by omega) (law_join hnt hx hb hown hts hS0 hX hbl hbA hA hK hE hXW hL (k := k) (z6 := y129 / 16) hk9 (by omega) (ih0 (k + 1) (by omega))) hok (by assumption) hcn hcc0 had hP hD hS (lv_sub hl [2, 3, 5, 6, 7, 8, 9] rfl)
        · refine lv_tableIn (tgt := 526) hx hb dL_law_181 (by rw [e181]; decide) (by rw [e181]; decide) (by rw [e181]; rfl) (by decide) ?_
          exact law_case hnt hx hb hown hts hS0 hX hbl hbA hA hK hE hXW hL (k := k) (z6 := y129 / 16) hk9 (by omega) (law_join hnt hx hb hown hts hS0 hX hbl hbA hA hK hE hXW hL (k := k) (z6 := y129 / 16) hk9 (by omega) (ih0 (k + 1) (by omega))) hok (by assumption) hcn hcc0 had hP hD hS (lv_sub hl [2, 3, 5, 6, 7, 8, 9] rfl)
        · refine lv_tableIn (tgt := 542) hx hb dL_law_181 (by rw [e181]; decide) (by rw [e181]; decide) (by rw [e181]; rfl) (by decide) ?_
          exact law_undo hnt hx hb hown hts hS0 hX hbl hbA hA hK hE hXW hL (k := k) (z6 := y129 / 16) hk9 (by omega) (law_join hnt hx hb hown hts hS0 hX hbl hbA hA hK hE hXW hL (k := k) (z6 := y129 / 16) hk9 (by omega) (ih0 (k + 1) (by omega))) hok (by assumption) hcn hcc0 had hP hD hS (lv_sub hl [2, 3, 5, 6, 7, 8, 9] rfl)
        · refine lv_tableOut (tgt := 574) hx hb dL_law_181 (by rw [e181]; decide) (by decide) ?_
          rcases (show rcT t = 20 ∨ rcT t < 20 by omega) with h0 | h0
          · exact law_add20 hnt hx hb hown hts hS0 hX hbl hbA hA hK hE hXW hL (k := k) (z6 := y129 / 16) hk9 (by omega) (law_join hnt hx hb hown hts hS0 hX hbl hbA hA hK hE hXW hL (k := k) (z6 := y129 / 16) hk9 (by omega) (ih0 (k + 1) (by omega))) hok (by assumption) hcn hcc0 had h0 hP hD hS (lv_sub hl [2, 3, 5, 6, 7, 8, 9, 1] rfl)
          · exact law_addlt hnt hx hb hown hts hS0 hX hbl hbA hA hK hE hXW hL (k := k) (z6 := y129 / 16) hk9 (by omega) (law_join hnt hx hb hown hts hS0 hX hbl hbA hA hK hE hXW hL (k := k) (z6 := y129 / 16) hk9 (by omega) (ih0 (k + 1) (by omega))) hok (by assumption) hcn hcc0 had h0 hP hD hS (lv_sub hl [2, 3, 5, 6, 7, 8, 9, 1] rfl)
        · refine lv_tableOut (tgt := 574) hx hb dL_law_181 (by rw [e181]; decide) (by decide) ?_
          rcases (show rcT t = 20 ∨ rcT t < 20 by omega) with h0 | h0
          · exact law_add20 hnt hx hb hown hts hS0 hX hbl hbA hA hK hE hXW hL (k := k) (z6 := y129 / 16) hk9 (by omega) (law_join hnt hx hb hown hts hS0 hX hbl hbA hA hK hE hXW hL (k := k) (z6 := y129 / 16) hk9 (by omega) (ih0 (k + 1) (by omega))) hok (by assumption) hcn hcc0 had h0 hP hD hS (lv_sub hl [2, 3, 5, 6, 7, 8, 9, 1] rfl)
          · exact law_addlt hnt hx hb hown hts hS0 hX hbl hbA hA hK hE hXW hL (k := k) (z6 := y129 / 16) hk9 (by omega) (law_join hnt hx hb hown hts hS0 hX hbl hbA hA hK hE hXW hL (k := k) (z6 := y129 / 16) hk9 (by omega) (ih0 (k + 1) (by omega))) hok (by assumption) hcn hcc0 had h0 hP hD hS (lv_sub hl [2, 3, 5, 6, 7, 8, 9, 1] rfl)
        · refine lv_tableOut (tgt := 574) hx hb dL_law_181 (by rw [e181]; decide) (by decide) ?_
          rcases (show rcT t = 20 ∨ rcT t < 20 by omega) with h0 | h0
          · exact law_add20 hnt hx hb hown hts hS0 hX hbl hbA hA hK hE hXW hL (k := k) (z6 := y129 / 16) hk9 (by omega) (law_join hnt hx hb hown hts hS0 hX hbl hbA hA hK hE hXW hL (k := k) (z6 := y129 / 16) hk9 (by omega) (ih0 (k + 1) (by omega))) hok (by assumption) hcn hcc0 had h0 hP hD hS (lv_sub hl [2, 3, 5, 6, 7, 8, 9, 1] rfl)
          · exact law_addlt hnt hx hb hown hts hS0 hX hbl hbA hA hK hE hXW hL (k := k) (z6 := y129 / 16) hk9 (by omega) (law_join hnt hx hb hown hts hS0 hX hbl hbA hA hK hE hXW hL (k := k) (z6 := y129 / 16) hk9 (by omega) (ih0 (k + 1) (by omega))) hok (by assumption) hcn hcc0 had h0 hP hD hS (lv_sub hl [2, 3, 5, 6, 7, 8, 9, 1] rfl)
        · refine lv_tableOut (tgt := 574) hx hb dL_law_181 (by rw [e181]; decide) (by decide) ?_
          rcases (show rcT t = 20 ∨ rcT t < 20 by omega) with h0 | h0
          · exact law_add20 hnt hx hb hown hts hS0 hX hbl hbA hA hK hE hXW hL (k := k) (z6 := y129 / 16) hk9 (by omega) (law_join hnt hx hb hown hts hS0 hX hbl hbA hA hK hE hXW hL (k := k) (z6 := y129 / 16) hk9 (by omega) (ih0 (k + 1) (by omega))) hok (by assumption) hcn hcc0 had h0 hP hD hS (lv_sub hl [2, 3, 5, 6, 7, 8, 9, 1] rfl)
          · exact law_addlt hnt hx hb hown hts hS0 hX hbl hbA hA hK hE hXW hL (k := k) (z6 := y129 / 16) hk9 (by omega) (law_join hnt hx hb hown hts hS0 hX hbl hbA hA hK hE hXW hL (k := k) (z6 := y129 / 16) hk9 (by omega) (ih0 (k + 1) (by omega))) hok (by assumption) hcn hcc0 had h0 hP hD hS (lv_sub hl [2, 3, 5, 6, 7, 8, 9, 1] rfl)
        · refine lv_tableOut (tgt := 574) hx hb dL_law_181 (by rw [e181]; decide) (by decide) ?_
          rcases (show rcT t = 20 ∨ rcT t < 20 by omega) with h0 | h0
          · exact law_add20 hnt hx hb hown hts hS0 hX hbl hbA hA hK hE hXW hL (k := k) (z6 := y129 / 16) hk9 (by omega) (law_join hnt hx hb hown hts hS0 hX hbl hbA hA hK hE hXW hL (k := k) (z6 := y129 / 16) hk9 (by omega) (ih0 (k + 1) (by omega))) hok (by assumption) hcn hcc0 had h0 hP hD hS (lv_sub hl [2, 3, 5, 6, 7, 8, 9, 1] rfl)
          · exact law_addlt hnt hx hb hown hts hS0 hX hbl hbA hA hK hE hXW hL (k := k) (z6 := y129 / 16) hk9 (by omega) (law_join hnt hx hb hown hts hS0 hX hbl hbA hA hK hE hXW hL (k := k) (z6 := y129 / 16) hk9 (by omega) (ih0 (k + 1) (by omega))) hok (by assumption) hcn hcc0 had h0 hP hD hS (lv_sub hl [2, 3, 5, 6, 7, 8, 9, 1] rfl)
        · refine lv_tableOut (tgt := 574) hx hb dL_law_181 (by rw [e181]; decide) (by decide) ?_
          rcases (show rcT t = 20 ∨ rcT t < 20 by omega) with h0 | h0
          · exact law_add20 hnt hx hb hown hts hS0 hX hbl hbA hA hK hE hXW hL (k := k) (z6 := y129 / 16) hk9 (by omega) (law_join hnt hx hb hown hts hS0 hX hbl hbA hA hK hE hXW hL (k := k) (z6 := y129 / 16) hk9 (by omega) (ih0 (k + 1) (by omega))) hok (by assumption) hcn hcc0 had h0 hP hD hS (lv_sub hl [2, 3, 5, 6, 7, 8, 9, 1] rfl)
          · exact law_addlt hnt hx hb hown hts hS0 hX hbl hbA hA hK hE hXW hL (k := k) (z6 := y129 / 16) hk9 (by omega) (law_join hnt hx hb hown hts hS0 hX hbl hbA hA hK hE hXW hL (k := k) (z6 := y129 / 16) hk9 (by omega) (ih0 (k + 1) (by omega))) hok (by assumption) hcn hcc0 had h0 hP hD hS (lv_sub hl [2, 3, 5, 6, 7, 8, 9, 1] rfl)
        · refine lv_tableOut (tgt := 574) hx hb dL_law_181 (by rw [e181]; decide) (by decide) ?_
          rcases (show rcT t = 20 ∨ rcT t < 20 by omega) with h0 | h0
          · exact law_add20 hnt hx hb hown hts hS0 hX hbl hbA hA hK hE hXW hL (k := k) (z6 := y129 / 16) hk9 (by omega) (law_join hnt hx hb hown hts hS0 hX hbl hbA hA hK hE hXW hL (k := k) (z6 := y129 / 16) hk9 (by omega) (ih0 (k + 1) (by omega))) hok (by assumption) hcn hcc0 had h0 hP hD hS (lv_sub hl [2, 3, 5, 6, 7, 8, 9, 1] rfl)
          · exact law_addlt hnt hx hb hown hts hS0 hX hbl hbA hA hK hE hXW hL (k := k) (z6 := y129 / 16) hk9 (by omega) (law_join hnt hx hb hown hts hS0 hX hbl hbA hA hK hE hXW hL (k := k) (z6 := y129 / 16) hk9 (by omega) (ih0 (k + 1) (by omega))) hok (by assumption) hcn hcc0 had h0 hP hD hS (lv_sub hl [2, 3, 5, 6, 7, 8, 9, 1] rfl)
        · refine lv_tableOut (tgt := 574) hx hb dL_law_181 (by rw [e181]; decide) (by decide) ?_
          rcases (show rcT t = 20 ∨ rcT t < 20 by omega) with h0 | h0
          · exact law_add20 hnt hx hb hown hts hS0 hX hbl hbA hA hK hE hXW hL (k := k) (z6 := y129 / 16) hk9 (by omega) (law_join hnt hx hb hown hts hS0 hX hbl hbA hA hK hE hXW hL (k := k) (z6 := y129 / 16) hk9 (by omega) (ih0 (k + 1) (by omega))) hok (by assumption) hcn hcc0 had h0 hP hD hS (lv_sub hl [2, 3, 5, 6, 7, 8, 9, 1] rfl)
          · exact law_addlt hnt hx hb hown hts hS0 hX hbl hbA hA hK hE hXW hL (k := k) (z6 := y129 / 16) hk9 (by omega) (law_join hnt hx hb hown hts hS0 hX hbl hbA hA hK hE hXW hL (k := k) (z6 := y129 / 16) hk9 (by omega) (ih0 (k + 1) (by omega))) hok (by assumption) hcn hcc0 had h0 hP hD hS (lv_sub hl [2, 3, 5, 6, 7, 8, 9, 1] rfl)
      · refine lv_iconst (v := (oI none)) hx hb dL_law_161 (by decide) ?_
        refine lv_goto (tgt := 174) hx hb dL_law_162 (by decide) ?_
        refine lv_istore (lv' := [(9, .int (oI none)), (8, .int (nI (adT t))), (7, .int (nI (rcT t))), (6, .int (nI (y129 / 16))), (5, .int (nI y129)), (4, .int (nI k)), (3, .int (nI (ccT t))), (2, .int (nI 1)), (1, .ref mq), (0, .ref b)]) hx hb dL_law_174 hl (by decide) rfl (fun ls hl => ?_)
        refine lv_iload hx hb dL_law_176 (lv_at hl 4 rfl) ?_
        refine lv_bipush (v := (nI 16)) hx hb dL_law_178 (by decide) ?_
        refine n_irem (v := (nI (y129 % 16))) hx hb (nI_ne0 (by omega) (by omega)) (pk_rem (by omega) (by omega) (by omega)) dL_law_180 ?_
        have hsw181 : y129 % 16 < 16 := (Nat.mod_lt _ (by decide))
        rcases (show y129 % 16 = 0 ∨ y129 % 16 = 1 ∨ y129 % 16 = 2 ∨ y129 % 16 = 3 ∨ y129 % 16 = 4 ∨ y129 % 16 = 5 ∨ y129 % 16 = 6 ∨ y129 % 16 = 7 ∨ y129 % 16 = 8 ∨ y129 % 16 = 9 ∨ y129 % 16 = 10 ∨ y129 % 16 = 11 ∨ y129 % 16 = 12 ∨ y129 % 16 = 13 ∨ y129 % 16 = 14 ∨ y129 % 16 = 15 by omega) with e181 | e181 | e181 | e181 | e181 | e181 | e181 | e181 | e181 | e181 | e181 | e181 | e181 | e181 | e181 | e181
        · refine lv_tableIn (tgt := 228) hx hb dL_law_181 (by rw [e181]; decide) (by rw [e181]; decide) (by rw [e181]; rfl) (by decide) ?_
          exact law_drops_r0 hnt hx hb hown hts hS0 hX hbl hbA hA hK hE hXW hL (k := k) (z6 := y129 / 16) hk9 (by omega) (law_join hnt hx hb hown hts hS0 hX hbl hbA hA hK hE hXW hL (k := k) (z6 := y129 / 16) hk9 (by omega) (ih0 (k + 1) (by omega))) hok (by assumption) hcn hcc0 had c158 hP hD hS (lv_sub hl [0, 2, 3, 5, 6, 7, 8, 9] rfl)
        · refine lv_tableIn (tgt := 282) hx hb dL_law_181 (by rw [e181]; decide) (by rw [e181]; decide) (by rw [e181]; rfl) (by decide) ?_
          exact law_ups_r0 hnt hx hb hown hts hS0 hX hbl hbA hA hK hE hXW hL (k := k) (z6 := y129 / 16) hk9 (by omega) (law_join hnt hx hb hown hts hS0 hX hbl hbA hA hK hE hXW hL (k := k) (z6 := y129 / 16) hk9 (by omega) (ih0 (k + 1) (by omega))) hok (by assumption) hcn hcc0 had c158 hP hD hS (lv_sub hl [0, 2, 3, 5, 6, 7, 8, 9] rfl)
        · refine lv_tableIn (tgt := 282) hx hb dL_law_181 (by rw [e181]; decide) (by rw [e181]; decide) (by rw [e181]; rfl) (by decide) ?_
          exact law_ups_r0 hnt hx hb hown hts hS0 hX hbl hbA hA hK hE hXW hL (k := k) (z6 := y129 / 16) hk9 (by omega) (law_join hnt hx hb hown hts hS0 hX hbl hbA hA hK hE hXW hL (k := k) (z6 := y129 / 16) hk9 (by omega) (ih0 (k + 1) (by omega))) hok (by assumption) hcn hcc0 had c158 hP hD hS (lv_sub hl [0, 2, 3, 5, 6, 7, 8, 9] rfl)
        · refine lv_tableIn (tgt := 330) hx hb dL_law_181 (by rw [e181]; decide) (by rw [e181]; decide) (by rw [e181]; rfl) (by decide) ?_
          exact law_acts_r0 hnt hx hb hown hts hS0 hX hbl hbA hA hK hE hXW hL (k := k) (z6 := y129 / 16) hk9 (by omega) (law_join hnt hx hb hown hts hS0 hX hbl hbA hA hK hE hXW hL (k := k) (z6 := y129 / 16) hk9 (by omega) (ih0 (k + 1) (by omega))) hok (by assumption) hcn hcc0 had c158 hP hD hS (lv_sub hl [0, 2, 3, 5, 6, 7, 8, 9] rfl)
        · refine lv_tableIn (tgt := 386) hx hb dL_law_181 (by rw [e181]; decide) (by rw [e181]; decide) (by rw [e181]; rfl) (by decide) ?_
          exact law_sets_r0 hnt hx hb hown hts hS0 hX hbl hbA hA hK hE hXW hL (k := k) (z6 := y129 / 16) hk9 (by omega) (law_join hnt hx hb hown hts hS0 hX hbl hbA hA hK hE hXW hL (k := k) (z6 := y129 / 16) hk9 (by omega) (ih0 (k + 1) (by omega))) hok (by assumption) hcn hcc0 had c158 hP hD hS (lv_sub hl [0, 2, 3, 5, 6, 7, 8, 9] rfl)
        · refine lv_tableIn (tgt := 483) hx hb dL_law_181 (by rw [e181]; decide) (by rw [e181]; decide) (by rw [e181]; rfl) (by decide) ?_
          exact law_costs hnt hx hb hown hts hS0 hX hbl hbA hA hK hE hXW hL (k := k) (z6 := y129 / 16) hk9 (by omega) (law_join hnt hx hb hown hts hS0 hX hbl hbA hA hK hE hXW hL (k := k) (z6 := y129 / 16) hk9 (by omega) (ih0 (k + 1) (by omega))) hok (by assumption) hcn hcc0 had hP hD hS (lv_sub hl [2, 3, 5, 6, 7, 8, 9] rfl)
        · refine lv_tableIn (tgt := 526) hx hb dL_law_181 (by rw [e181]; decide) (by rw [e181]; decide) (by rw [e181]; rfl) (by decide) ?_
          exact law_case hnt hx hb hown hts hS0 hX hbl hbA hA hK hE hXW hL (k := k) (z6 := y129 / 16) hk9 (by omega) (law_join hnt hx hb hown hts hS0 hX hbl hbA hA hK hE hXW hL (k := k) (z6 := y129 / 16) hk9 (by omega) (ih0 (k + 1) (by omega))) hok (by assumption) hcn hcc0 had hP hD hS (lv_sub hl [2, 3, 5, 6, 7, 8, 9] rfl)
        · refine lv_tableIn (tgt := 542) hx hb dL_law_181 (by rw [e181]; decide) (by rw [e181]; decide) (by rw [e181]; rfl) (by decide) ?_
          exact law_undo hnt hx hb hown hts hS0 hX hbl hbA hA hK hE hXW hL (k := k) (z6 := y129 / 16) hk9 (by omega) (law_join hnt hx hb hown hts hS0 hX hbl hbA hA hK hE hXW hL (k := k) (z6 := y129 / 16) hk9 (by omega) (ih0 (k + 1) (by omega))) hok (by assumption) hcn hcc0 had hP hD hS (lv_sub hl [2, 3, 5, 6, 7, 8, 9] rfl)
        · refine lv_tableOut (tgt := 574) hx hb dL_law_181 (by rw [e181]; decide) (by decide) ?_
          rcases (show rcT t = 20 ∨ rcT t < 20 by omega) with h0 | h0
          · exact law_add20 hnt hx hb hown hts hS0 hX hbl hbA hA hK hE hXW hL (k := k) (z6 := y129 / 16) hk9 (by omega) (law_join hnt hx hb hown hts hS0 hX hbl hbA hA hK hE hXW hL (k := k) (z6 := y129 / 16) hk9 (by omega) (ih0 (k + 1) (by omega))) hok (by assumption) hcn hcc0 had h0 hP hD hS (lv_sub hl [2, 3, 5, 6, 7, 8, 9, 1] rfl)
          · exact law_addlt hnt hx hb hown hts hS0 hX hbl hbA hA hK hE hXW hL (k := k) (z6 := y129 / 16) hk9 (by omega) (law_join hnt hx hb hown hts hS0 hX hbl hbA hA hK hE hXW hL (k := k) (z6 := y129 / 16) hk9 (by omega) (ih0 (k + 1) (by omega))) hok (by assumption) hcn hcc0 had h0 hP hD hS (lv_sub hl [2, 3, 5, 6, 7, 8, 9, 1] rfl)
        · refine lv_tableOut (tgt := 574) hx hb dL_law_181 (by rw [e181]; decide) (by decide) ?_
          rcases (show rcT t = 20 ∨ rcT t < 20 by omega) with h0 | h0
          · exact law_add20 hnt hx hb hown hts hS0 hX hbl hbA hA hK hE hXW hL (k := k) (z6 := y129 / 16) hk9 (by omega) (law_join hnt hx hb hown hts hS0 hX hbl hbA hA hK hE hXW hL (k := k) (z6 := y129 / 16) hk9 (by omega) (ih0 (k + 1) (by omega))) hok (by assumption) hcn hcc0 had h0 hP hD hS (lv_sub hl [2, 3, 5, 6, 7, 8, 9, 1] rfl)
          · exact law_addlt hnt hx hb hown hts hS0 hX hbl hbA hA hK hE hXW hL (k := k) (z6 := y129 / 16) hk9 (by omega) (law_join hnt hx hb hown hts hS0 hX hbl hbA hA hK hE hXW hL (k := k) (z6 := y129 / 16) hk9 (by omega) (ih0 (k + 1) (by omega))) hok (by assumption) hcn hcc0 had h0 hP hD hS (lv_sub hl [2, 3, 5, 6, 7, 8, 9, 1] rfl)
        · refine lv_tableOut (tgt := 574) hx hb dL_law_181 (by rw [e181]; decide) (by decide) ?_
          rcases (show rcT t = 20 ∨ rcT t < 20 by omega) with h0 | h0
          · exact law_add20 hnt hx hb hown hts hS0 hX hbl hbA hA hK hE hXW hL (k := k) (z6 := y129 / 16) hk9 (by omega) (law_join hnt hx hb hown hts hS0 hX hbl hbA hA hK hE hXW hL (k := k) (z6 := y129 / 16) hk9 (by omega) (ih0 (k + 1) (by omega))) hok (by assumption) hcn hcc0 had h0 hP hD hS (lv_sub hl [2, 3, 5, 6, 7, 8, 9, 1] rfl)
          · exact law_addlt hnt hx hb hown hts hS0 hX hbl hbA hA hK hE hXW hL (k := k) (z6 := y129 / 16) hk9 (by omega) (law_join hnt hx hb hown hts hS0 hX hbl hbA hA hK hE hXW hL (k := k) (z6 := y129 / 16) hk9 (by omega) (ih0 (k + 1) (by omega))) hok (by assumption) hcn hcc0 had h0 hP hD hS (lv_sub hl [2, 3, 5, 6, 7, 8, 9, 1] rfl)
        · refine lv_tableOut (tgt := 574) hx hb dL_law_181 (by rw [e181]; decide) (by decide) ?_
          rcases (show rcT t = 20 ∨ rcT t < 20 by omega) with h0 | h0
          · exact law_add20 hnt hx hb hown hts hS0 hX hbl hbA hA hK hE hXW hL (k := k) (z6 := y129 / 16) hk9 (by omega) (law_join hnt hx hb hown hts hS0 hX hbl hbA hA hK hE hXW hL (k := k) (z6 := y129 / 16) hk9 (by omega) (ih0 (k + 1) (by omega))) hok (by assumption) hcn hcc0 had h0 hP hD hS (lv_sub hl [2, 3, 5, 6, 7, 8, 9, 1] rfl)
          · exact law_addlt hnt hx hb hown hts hS0 hX hbl hbA hA hK hE hXW hL (k := k) (z6 := y129 / 16) hk9 (by omega) (law_join hnt hx hb hown hts hS0 hX hbl hbA hA hK hE hXW hL (k := k) (z6 := y129 / 16) hk9 (by omega) (ih0 (k + 1) (by omega))) hok (by assumption) hcn hcc0 had h0 hP hD hS (lv_sub hl [2, 3, 5, 6, 7, 8, 9, 1] rfl)
        · refine lv_tableOut (tgt := 574) hx hb dL_law_181 (by rw [e181]; decide) (by decide) ?_
          rcases (show rcT t = 20 ∨ rcT t < 20 by omega) with h0 | h0
          · exact law_add20 hnt hx hb hown hts hS0 hX hbl hbA hA hK hE hXW hL (k := k) (z6 := y129 / 16) hk9 (by omega) (law_join hnt hx hb hown hts hS0 hX hbl hbA hA hK hE hXW hL (k := k) (z6 := y129 / 16) hk9 (by omega) (ih0 (k + 1) (by omega))) hok (by assumption) hcn hcc0 had h0 hP hD hS (lv_sub hl [2, 3, 5, 6, 7, 8, 9, 1] rfl)
          · exact law_addlt hnt hx hb hown hts hS0 hX hbl hbA hA hK hE hXW hL (k := k) (z6 := y129 / 16) hk9 (by omega) (law_join hnt hx hb hown hts hS0 hX hbl hbA hA hK hE hXW hL (k := k) (z6 := y129 / 16) hk9 (by omega) (ih0 (k + 1) (by omega))) hok (by assumption) hcn hcc0 had h0 hP hD hS (lv_sub hl [2, 3, 5, 6, 7, 8, 9, 1] rfl)
        · refine lv_tableOut (tgt := 574) hx hb dL_law_181 (by rw [e181]; decide) (by decide) ?_
          rcases (show rcT t = 20 ∨ rcT t < 20 by omega) with h0 | h0
          · exact law_add20 hnt hx hb hown hts hS0 hX hbl hbA hA hK hE hXW hL (k := k) (z6 := y129 / 16) hk9 (by omega) (law_join hnt hx hb hown hts hS0 hX hbl hbA hA hK hE hXW hL (k := k) (z6 := y129 / 16) hk9 (by omega) (ih0 (k + 1) (by omega))) hok (by assumption) hcn hcc0 had h0 hP hD hS (lv_sub hl [2, 3, 5, 6, 7, 8, 9, 1] rfl)
          · exact law_addlt hnt hx hb hown hts hS0 hX hbl hbA hA hK hE hXW hL (k := k) (z6 := y129 / 16) hk9 (by omega) (law_join hnt hx hb hown hts hS0 hX hbl hbA hA hK hE hXW hL (k := k) (z6 := y129 / 16) hk9 (by omega) (ih0 (k + 1) (by omega))) hok (by assumption) hcn hcc0 had h0 hP hD hS (lv_sub hl [2, 3, 5, 6, 7, 8, 9, 1] rfl)
        · refine lv_tableOut (tgt := 574) hx hb dL_law_181 (by rw [e181]; decide) (by decide) ?_
          rcases (show rcT t = 20 ∨ rcT t < 20 by omega) with h0 | h0
          · exact law_add20 hnt hx hb hown hts hS0 hX hbl hbA hA hK hE hXW hL (k := k) (z6 := y129 / 16) hk9 (by omega) (law_join hnt hx hb hown hts hS0 hX hbl hbA hA hK hE hXW hL (k := k) (z6 := y129 / 16) hk9 (by omega) (ih0 (k + 1) (by omega))) hok (by assumption) hcn hcc0 had h0 hP hD hS (lv_sub hl [2, 3, 5, 6, 7, 8, 9, 1] rfl)
          · exact law_addlt hnt hx hb hown hts hS0 hX hbl hbA hA hK hE hXW hL (k := k) (z6 := y129 / 16) hk9 (by omega) (law_join hnt hx hb hown hts hS0 hX hbl hbA hA hK hE hXW hL (k := k) (z6 := y129 / 16) hk9 (by omega) (ih0 (k + 1) (by omega))) hok (by assumption) hcn hcc0 had h0 hP hD hS (lv_sub hl [2, 3, 5, 6, 7, 8, 9, 1] rfl)
        · refine lv_tableOut (tgt := 574) hx hb dL_law_181 (by rw [e181]; decide) (by decide) ?_
          rcases (show rcT t = 20 ∨ rcT t < 20 by omega) with h0 | h0
          · exact law_add20 hnt hx hb hown hts hS0 hX hbl hbA hA hK hE hXW hL (k := k) (z6 := y129 / 16) hk9 (by omega) (law_join hnt hx hb hown hts hS0 hX hbl hbA hA hK hE hXW hL (k := k) (z6 := y129 / 16) hk9 (by omega) (ih0 (k + 1) (by omega))) hok (by assumption) hcn hcc0 had h0 hP hD hS (lv_sub hl [2, 3, 5, 6, 7, 8, 9, 1] rfl)
          · exact law_addlt hnt hx hb hown hts hS0 hX hbl hbA hA hK hE hXW hL (k := k) (z6 := y129 / 16) hk9 (by omega) (law_join hnt hx hb hown hts hS0 hX hbl hbA hA hK hE hXW hL (k := k) (z6 := y129 / 16) hk9 (by omega) (ih0 (k + 1) (by omega))) hok (by assumption) hcn hcc0 had h0 hP hD hS (lv_sub hl [2, 3, 5, 6, 7, 8, 9, 1] rfl)
set_option maxHeartbeats 4000000 in
set_option maxRecDepth 100000 in
theorem law_first {pQ : Program} {lQ : Launch} {eQ : Env} {s : State} {mQ : MethodId} {below : List Frame} {meth : Method} {cQ : Code} {D : va_G} {kA : Nat → ClassId} {A : Nat → Prop} {b : Nat} {mq : Nat} {q : Nat → Nat} {qc : Nat → Nat} {qp : Nat → Nat} {hq : Nat → Nat} {qs : Nat → Nat} {x : SC9} {adK adV : Nat → Nat} {L : Nat} {zs : Nat → Int32} (hnt : lQ.stackTraces = false) (hx : pQ.tables.exec = Jvm.exec) (hb : cQ.code = cL_law) (hown : s.vm.findClass RL = some mQ.cls) (hts : ∀ w ∈ wsL_law, w.before #[Value.ref b] s = true) (hS0 : CallFix pQ mQ cQ cL_law 17 s #[Value.ref b] wsL_law RL) (hX : va_X b L zs s s.heap) (hbl : b < s.heap.size) (hbA : ¬ A b) (hA : ∀ q : Nat, s.heap.size ≤ q → A q) (hK : va_K D vwCl (tyK kA) s) (hE : evS adK adV A s s.heap) (hXW : xwS s) (hL : L ≤ 260) (hr : meth.sig.returnType = ret) (hlocks : meth.locks = false) (hAI : ∀ q : Nat, A q → s.heap.size ≤ q) {n3 : Nat} (hn3 : n3 ≤ 3) (hn1 : 1 ≤ n3) : ∀ (n c0 : Nat), c0 + n = n3 → ∀ (t : TCt) (cnt : Nat) (sv : Nat → TSt) (z : ZC), (okT t) → (zOK t z) → (cnt ≤ 4) → ccT t = c0 → rcT t = 0 → adT t = 0 → ∀ (H : Heap) (locs : List Loc), va_P D vwCl (wA kA mq q qc qp hq qs t cnt sv z x) H → va_D A (wA kA mq q qc qp hq qs t cnt sv z x) → va_S A s.heap H locs → ∀ (ls : Array Slot), lv_has ls 17 [(4, .int (nI c0)), (3, .int (nI n3)), (2, .int (nI 1)), (1, .ref mq), (0, .ref b)] → W pQ lQ eQ room_1 s mQ #[Value.ref b] below meth cQ H locs (49 + c0) (13009 + 6 * c0) (lw_Z below #[Value.ref b] s) (F0 mQ 54 ls []) := by
  intro n
  induction n with
  | zero =>
    intro c0 hc t cnt sv z hok hz hcn hcq hr0 had H locs hP hD hS ls hl
    refine lv_iload hx hb dL_law_54 (lv_at hl 0 rfl) ?_
    refine lv_iload_n hx hb dL_law_56 rfl (lv_at hl 1 rfl) ?_
    refine n_icmp_ge (a := c0) (b := n3) (tgt := 110) hx hb (by omega) (by omega) dL_law_57 (by decide) (fun c57 => ?_) (fun c57 => ?_)
    · refine lv_iconst (v := (nI 0)) hx hb dL_law_110 (by decide) ?_
      refine lv_istore (lv' := [(4, .int (nI 0)), (3, .int (nI n3)), (2, .int (nI 1)), (1, .ref mq), (0, .ref b)]) hx hb dL_law_111 hl (by decide) rfl (fun ls hl => ?_)
      have e3 : n3 = ccT t := by omega
      have hcc0 : 0 < ccT t := by omega
      rw [e3] at hl
      have hP : va_P D vwCl (wA kA mq q qc qp hq qs t cnt sv z x) H := hP
      have hD : va_D A (wA kA mq q qc qp hq qs t cnt sv z x) := hD
      refine W.widen (k := (52 + 2 * 0)) (n := (13027 + 12 * 0)) (by omega) (by omega) ?_
      exact law_loop hnt hx hb hown hts hS0 hX hbl hbA hA hK hE hXW hL hr hlocks hAI 22 0 rfl t cnt sv z hok (by assumption) hcn hcc0 (Nat.le_of_eq had) _ _ hP hD hS _ (lv_sub hl [0, 1, 2, 3, 4] rfl)
    · exact absurd c57 (by omega)
  | succ n ih0 =>
    intro c0 hc t cnt sv z hok hz hcn hcq hr0 had H locs hP hD hS ls hl
    refine lv_iload hx hb dL_law_54 (lv_at hl 0 rfl) ?_
    refine lv_iload_n hx hb dL_law_56 rfl (lv_at hl 1 rfl) ?_
    refine n_icmp_ge (a := c0) (b := n3) (tgt := 110) hx hb (by omega) (by omega) dL_law_57 (by decide) (fun c57 => ?_) (fun c57 => ?_)
    · exact absurd c57 (by omega)
    · refine lv_iload_n hx hb dL_law_60 rfl (lv_at hl 2 rfl) ?_
      refine lv_if_eq (tgt := 110) hx hb dL_law_61 (by decide) (fun h => absurd h (by decide)) (fun _ => ?_)
      refine lv_aload_n hx hb dL_law_64 rfl (lv_at hl 4 rfl) ?_
      refine lv_iconst (v := (nI 1)) hx hb dL_law_65 (by decide) ?_
      refine lv_iload hx hb dL_law_66 (lv_at hl 0 rfl) ?_
      refine n_iadd (v := (nI (1 + c0))) hx hb (nI_add _ _) dL_law_68 ?_
      refine n_cX (As := [.ref b, .int (nI (1 + c0))]) (rest := []) hS0 (c_L_cell lQ b L zs hL (1 + c0) (by omega)) (va_cwS 2 hts gL_law_L_cell rfl rfl rfl (by decide +kernel) ⟨Nat.le_of_ble_eq_true rfl, Nat.le_of_ble_eq_true rfl⟩) hX hbl hbA hS rfl rfl hl.1 (Nat.le_of_ble_eq_true rfl) dL_law_69 (rm1 (by omega) (by omega)) (fun r69 h69 => ?_)
      obtain ⟨y69, rfl, hy69⟩ := h69
      refine lv_istore (lv' := [(5, .int (nI y69)), (4, .int (nI c0)), (3, .int (nI n3)), (2, .int (nI 1)), (1, .ref mq), (0, .ref b)]) hx hb dL_law_72 hl (by decide) rfl (fun ls hl => ?_)
      refine lv_aload_n hx hb dL_law_74 rfl (lv_at hl 4 rfl) ?_
      refine lv_iconst (v := (nI 2)) hx hb dL_law_75 (by decide) ?_
      refine lv_iload hx hb dL_law_76 (lv_at hl 0 rfl) ?_
      refine lv_iconst (v := (nI 3)) hx hb dL_law_78 (by decide) ?_
      refine n_irem (v := (nI (y69 % 3))) hx hb (nI_ne0 (by omega) (by omega)) (pk_rem (by omega) (by omega) (by omega)) dL_law_79 ?_
      refine n_iadd (v := (nI (2 + (y69 % 3)))) hx hb (nI_add _ _) dL_law_80 ?_
      refine lv_iconst (v := (nI 1)) hx hb dL_law_81 (by decide) ?_
      refine lv_iload hx hb dL_law_82 (lv_at hl 0 rfl) ?_
      refine lv_iconst (v := (nI 4)) hx hb dL_law_84 (by decide) ?_
      refine n_idiv (v := (nI (y69 / 4))) hx hb (nI_ne0 (by omega) (by omega)) (pk_div (by omega) (by omega) (by omega)) dL_law_85 ?_
      refine lv_bipush (v := (nI 9)) hx hb dL_law_86 (by decide) ?_
      refine n_irem (v := (nI ((y69 / 4) % 9))) hx hb (nI_ne0 (by omega) (by omega)) (pk_rem (by omega) (by omega) (by omega)) dL_law_88 ?_
      refine n_iadd (v := (nI (1 + ((y69 / 4) % 9)))) hx hb (nI_add _ _) dL_law_89 ?_
      refine n_wSiX (As := [.ref mq, .int (nI (2 + (y69 % 3))), .int (nI (1 + ((y69 / 4) % 9)))]) (rest := []) (wr := []) (ws' := fun u => (wA kA mq q qc qp hq qs (acO t (2 + (y69 % 3)) (1 + ((y69 / 4) % 9))) (cntF cnt) (savF cnt sv t) u x)) hS0 (w_cd0 lQ D kA adK adV mq q qc qp hq qs t cnt sv z x (2 + (y69 % 3)) (1 + ((y69 / 4) % 9)) H.size hnt (by first | assumption | omega) (by first | assumption | omega) (by first | assumption | omega) ⟨by omega, by omega⟩ ⟨by omega, by omega⟩ (by omega)) (vx_cwSW 3 hts gL_law_L_conditions rfl rfl rfl (by decide +kernel) ⟨Nat.le_of_ble_eq_true rfl, Nat.le_of_ble_eq_true rfl⟩) hP hD hS hE hXW hA hK hK (by simpa only [List.append_assoc, List.append_nil] using (List.Perm.of_eq (List.append_nil _).symm)) (fun u => List.Perm.symm (by simpa only [List.append_assoc, List.append_nil] using (List.Perm.of_eq (List.append_nil _).symm))) rfl rfl hl.1 (Nat.le_of_ble_eq_true rfl) dL_law_90 (rm1 (by omega) (by omega)) (fun r90 u90 H locs h90 hP hD hS => ?_)
      obtain ⟨z1_90, rfl⟩ : ∃ z, z = u90 := ⟨_, rfl⟩
      obtain ⟨rfl, h90_1⟩ := h90
      have hP : va_P D vwCl (wA kA mq q qc qp hq qs (acO t (2 + (y69 % 3)) (1 + ((y69 / 4) % 9))) (cntF cnt) (savF cnt sv t) z1_90 x) H := hP
      have hD : va_D A (wA kA mq q qc qp hq qs (acO t (2 + (y69 % 3)) (1 + ((y69 / 4) % 9))) (cntF cnt) (savF cnt sv t) z1_90 x) := hD
      refine lv_iload hx hb dL_law_93 (lv_at hl 1 rfl) ?_
      refine n_icmp_ne (a := ccT t) (b := c0) (tgt := 102) hx hb (by omega) (by omega) dL_law_95 (by decide) (fun c95 => ?_) (fun c95 => ?_)
      · exact absurd hcq c95
      · refine lv_iconst (v := (nI 1)) hx hb dL_law_98 (by decide) ?_
        refine lv_goto (tgt := 103) hx hb dL_law_99 (by decide) ?_
        refine lv_istore_n (lv' := [(2, .int (nI 1)), (5, .int (nI y69)), (4, .int (nI c0)), (3, .int (nI n3)), (1, .ref mq), (0, .ref b)]) hx hb dL_law_103 rfl hl (by decide) rfl (fun ls hl => ?_)
        refine lv_iinc (v := (nI (c0 + 1))) (lv' := [(4, .int (nI (c0 + 1))), (2, .int (nI 1)), (5, .int (nI y69)), (3, .int (nI n3)), (1, .ref mq), (0, .ref b)]) hx hb dL_law_104 hl (k := 2) rfl (nI_inc _) (by decide) rfl (fun ls hl => ?_)
        refine lv_goto (tgt := 54) hx hb dL_law_107 (by decide) ?_
        have hP : va_P D vwCl (wA kA mq q qc qp hq qs (acO t (2 + (y69 % 3)) (1 + ((y69 / 4) % 9))) (cntF cnt) (savF cnt sv t) z1_90 x) H := hP
        have hD : va_D A (wA kA mq q qc qp hq qs (acO t (2 + (y69 % 3)) (1 + ((y69 / 4) % 9))) (cntF cnt) (savF cnt sv t) z1_90 x) := hD
        refine W.widen (k := (49 + (c0 + 1))) (n := (13009 + 6 * (c0 + 1))) (by omega) (by omega) ?_
        exact ih0 (c0 + 1) (by omega) (acO t (2 + (y69 % 3)) (1 + ((y69 / 4) % 9))) (cntF cnt) (savF cnt sv t) z1_90 (okT_ac0 hok hr0 (by omega) ⟨by omega, by omega⟩ ⟨by omega, by omega⟩) (by assumption) (cntF_le hcn) (show ccT t + 1 = c0 + 1 by rw [hcq]) hr0 had _ _ hP hD hS _ (lv_sub hl [0, 3, 1, 4, 5] rfl)
