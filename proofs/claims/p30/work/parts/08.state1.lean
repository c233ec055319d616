set_option maxRecDepth 100000 in
set_option maxHeartbeats 1000000 in
theorem c_hoursOn {l : Launch} {D : va_G} {cy : Nat → ClassId} {B : Nat} {M : MM} {P : PP} {m d : Int32} {s c q : Nat} {f : FF} (hs : isSt s) (hp : PS P s) (hr : Rp M P s f) (hw : Wf c q f) : KI l D cy B yX4_hoursOn wsX4_hoursOn 1 22 [Value.ref (B + s), Value.int m, Value.int d] M P (qi (bkO f m d) M P) := by
  refine met_KI (cc := cX4_hoursOn) (maxL := 6) (ret := (some .int)) (lv := [some (Value.ref (B + s)), some (Value.int m), some (Value.int d), none, none, none]) (by decide) rfl rfl rfl (Nat.le_of_ble_eq_true rfl) ?_
  intro X C F
  have h30 := hw.s30
  refine g_iconst (pc := 0) (v := 0) C dX4_hoursOn_0 rfl ?_
  refine g_istore_3 (pc := 1) C dX4_hoursOn_1 ?_
  refine g_iconst (pc := 2) (v := 0) C dX4_hoursOn_2 rfl ?_
  refine g_istore_4 (pc := 3) C dX4_hoursOn_3 ?_
  refine ind_m (fun (k : Nat) => sn f - k) (p := fun (k : Nat) => k ≤ sn f → G X D cy B 0 0 369 M P 5 [some (Value.ref (B + s)), some (Value.int m), some (Value.int d), some (Value.int (bk f m d k)), some (Value.int (nI k)), none] []) ?_ 0 (Nat.zero_le _)
  intro k ih hk
  refine g_iload_4 (pc := 5) C dX4_hoursOn_5 ?_
  refine g_aload_0 (pc := 7) C dX4_hoursOn_7 ?_
  refine g_geti (pc := 8) C fl_X4_hoursOn_61 (kk_s0 hs) dX4_hoursOn_8 ?_
  rw [hr.1.2.1, hw.s]
  refine g_icmp_ge (pc := 11) (tgt := 51) C dX4_hoursOn_11 (by decide) (fun c11 => ?_) (fun c11 => ?_)
  · have e : sn f ≤ k := i_le (by omega) (by omega) c11
    refine g_iload_3 (pc := 51) C dX4_hoursOn_51 ?_
    exact g_iret (post := qi (bkO f m d) M P) C F dX4_hoursOn_52 ⟨by rw [show k = sn f by omega]; rfl, rfl, rfl⟩
  · have hk2 : k < sn f := i_nle (by omega) (by omega) c11
    have hq := hr.2.2.2 k hk2 (by omega)
    refine g_aload_0 (pc := 14) C dX4_hoursOn_14 ?_
    refine g_iload_4 (pc := 15) C dX4_hoursOn_15 ?_
    refine g_V1qs (pc := 17) C e_X4_hoursOn_64 (Nat.le_of_ble_eq_true rfl) rfl dX4_hoursOn_17 (kk_s0 hs) (c_bookingAt hs hp hr hw (i := k) rfl hk2) ?_
    refine g_astore_5 (pc := 20) C dX4_hoursOn_20 ?_
    refine g_aload_5 (pc := 22) C dX4_hoursOn_22 ?_
    refine g_ifnull (pc := 24) C dX4_hoursOn_24 ?_
    refine g_aload_5 (pc := 27) C dX4_hoursOn_27 ?_
    refine g_iload_1 (pc := 29) C dX4_hoursOn_29 ?_
    refine g_iload_2 (pc := 30) C dX4_hoursOn_30 ?_
    refine g_V2ie (pc := 31) C e_X4_hoursOn_158 (Nat.le_of_ble_eq_true rfl) rfl dX4_hoursOn_31 (hp.kb hs (by omega)) (c_isFor (hp.kb hs (by omega))) ?_
    rw [hq 2 (by decide), hq 3 (by decide)]
    refine g_if_eq (pc := 34) (tgt := 45) C dX4_hoursOn_34 (by decide) (fun c34 => ?_) (fun c34 => ?_)
    · have e2 : bk f m d (k + 1) = bk f m d k := by simp only [bk]; rw [if_neg (if0 c34)]; exact z_add _
      rw [← e2]
      refine g_iinc_4 (pc := 45) (v := nI (k + 1)) C dX4_hoursOn_45 (nI_1 k) ?_
      refine g_goto (pc := 48) (tgt := 5) C dX4_hoursOn_48 (by decide) ?_
      refine g_kill_5 ?_
      exact ih (k + 1) (by omega) (by omega)
    · have e2 : bk f m d (k + 1) = bk f m d k + f (133 + 6 * k + 4) := by simp only [bk]; rw [if_pos (if1 c34)]
      refine g_iload_3 (pc := 37) C dX4_hoursOn_37 ?_
      refine g_aload_5 (pc := 38) C dX4_hoursOn_38 ?_
      refine g_geti (pc := 40) C fl_X4_hoursOn_152 (hp.kb hs (by omega)) dX4_hoursOn_40 ?_
      rw [hq 4 (by decide)]
      refine g_iadd (pc := 43) C dX4_hoursOn_43 ?_
      rw [← e2]
      refine g_istore_3 (pc := 44) C dX4_hoursOn_44 ?_
      refine g_iinc_4 (pc := 45) (v := nI (k + 1)) C dX4_hoursOn_45 (nI_1 k) ?_
      refine g_goto (pc := 48) (tgt := 5) C dX4_hoursOn_48 (by decide) ?_
      refine g_kill_5 ?_
      exact ih (k + 1) (by omega) (by omega)

set_option maxRecDepth 100000 in
set_option maxHeartbeats 1000000 in
theorem c_standingOf {l : Launch} {D : va_G} {cy : Nat → ClassId} {B : Nat} {M : MM} {P : PP} {w : Int32} {s c q : Nat} {f : FF} (hs : isSt s) (hp : PS P s) (hr : Rp M P s f) (hw : Wf c q f) : KI l D cy B yX4_standingOf wsX4_standingOf 1 21 [Value.ref (B + s), Value.int w] M P (qi (st' f w (sn f)) M P) := by
  refine met_KI (cc := cX4_standingOf) (maxL := 5) (ret := (some .int)) (lv := [some (Value.ref (B + s)), some (Value.int w), none, none, none]) (by decide) rfl rfl rfl (Nat.le_of_ble_eq_true rfl) ?_
  intro X C F
  have h30 := hw.s30
  refine g_iconst (pc := 0) (v := 0) C dX4_standingOf_0 rfl ?_
  refine g_istore_2 (pc := 1) C dX4_standingOf_1 ?_
  refine g_iconst (pc := 2) (v := 0) C dX4_standingOf_2 rfl ?_
  refine g_istore_3 (pc := 3) C dX4_standingOf_3 ?_
  refine ind_m (fun (k : Nat) => sn f - k) (p := fun (k : Nat) => k ≤ sn f → G X D cy B 0 0 369 M P 4 [some (Value.ref (B + s)), some (Value.int w), some (Value.int (st' f w k)), some (Value.int (nI k)), none] []) ?_ 0 (Nat.zero_le _)
  intro k ih hk
  refine g_iload_3 (pc := 4) C dX4_standingOf_4 ?_
  refine g_aload_0 (pc := 5) C dX4_standingOf_5 ?_
  refine g_geti (pc := 6) C fl_X4_standingOf_61 (kk_s0 hs) dX4_standingOf_6 ?_
  rw [hr.1.2.1, hw.s]
  refine g_icmp_ge (pc := 9) (tgt := 42) C dX4_standingOf_9 (by decide) (fun c9 => ?_) (fun c9 => ?_)
  · have e : sn f ≤ k := i_le (by omega) (by omega) c9
    refine g_iload_2 (pc := 42) C dX4_standingOf_42 ?_
    exact g_iret (post := qi (st' f w (sn f)) M P) C F dX4_standingOf_43 ⟨by rw [show k = sn f by omega], rfl, rfl⟩
  · have hk2 : k < sn f := i_nle (by omega) (by omega) c9
    have hq := hr.2.2.2 k hk2 (by omega)
    refine g_aload_0 (pc := 12) C dX4_standingOf_12 ?_
    refine g_iload_3 (pc := 13) C dX4_standingOf_13 ?_
    refine g_V1qs (pc := 14) C e_X4_standingOf_64 (Nat.le_of_ble_eq_true rfl) rfl dX4_standingOf_14 (kk_s0 hs) (c_bookingAt hs hp hr hw (i := k) rfl hk2) ?_
    refine g_astore_4 (pc := 17) C dX4_standingOf_17 ?_
    refine g_aload_4 (pc := 19) C dX4_standingOf_19 ?_
    refine g_ifnull (pc := 21) C dX4_standingOf_21 ?_
    refine g_aload_4 (pc := 24) C dX4_standingOf_24 ?_
    refine g_geti (pc := 26) C fl_X4_standingOf_145 (hp.kb hs (by omega)) dX4_standingOf_26 ?_
    rw [hq 1 (by decide)]
    refine g_iload_1 (pc := 29) C dX4_standingOf_29 ?_
    refine g_icmp_ne (pc := 30) (tgt := 36) C dX4_standingOf_30 (by decide) (fun c30 => ?_) (fun c30 => ?_)
    · have e2 : st' f w (k + 1) = st' f w k := by simp only [st']; rw [if_neg c30]; exact z_add _
      rw [← e2]
      refine g_iinc_3 (pc := 36) (v := nI (k + 1)) C dX4_standingOf_36 (nI_1 k) ?_
      refine g_goto (pc := 39) (tgt := 4) C dX4_standingOf_39 (by decide) ?_
      refine g_kill_4 ?_
      exact ih (k + 1) (by omega) (by omega)
    · have e2 : st' f w k + 1 = st' f w (k + 1) := by simp only [st']; rw [if_pos c30]
      refine g_iinc_2 (pc := 33) (v := st' f w (k + 1)) C dX4_standingOf_33 e2 ?_
      refine g_iinc_3 (pc := 36) (v := nI (k + 1)) C dX4_standingOf_36 (nI_1 k) ?_
      refine g_goto (pc := 39) (tgt := 4) C dX4_standingOf_39 (by decide) ?_
      refine g_kill_4 ?_
      exact ih (k + 1) (by omega) (by omega)

set_option maxRecDepth 100000 in
set_option maxHeartbeats 1000000 in
theorem c_sumOfAccounts {l : Launch} {D : va_G} {cy : Nat → ClassId} {B : Nat} {M : MM} {P : PP} {s c q : Nat} {f : FF} (hs : isSt s) (hp : PS P s) (hr : Rp M P s f) (hw : Wf c q f) : KI l D cy B yX4_sumOfAccounts wsX4_sumOfAccounts 1 21 [Value.ref (B + s)] M P (qi (ac f 6) M P) := by
  refine met_KI (cc := cX4_sumOfAccounts) (maxL := 4) (ret := (some .int)) (lv := [some (Value.ref (B + s)), none, none, none]) (by decide) rfl rfl rfl (Nat.le_of_ble_eq_true rfl) ?_
  intro X C F
  refine g_iconst (pc := 0) (v := 0) C dX4_sumOfAccounts_0 rfl ?_
  refine g_istore_1 (pc := 1) C dX4_sumOfAccounts_1 ?_
  refine g_iconst (pc := 2) (v := 0) C dX4_sumOfAccounts_2 rfl ?_
  refine g_istore_2 (pc := 3) C dX4_sumOfAccounts_3 ?_
  refine ind_m (fun (k : Nat) => 6 - k) (p := fun (k : Nat) => k ≤ 6 → G X D cy B 0 0 369 M P 4 [some (Value.ref (B + s)), some (Value.int (ac f k)), some (Value.int (nI k)), none] []) ?_ 0 (Nat.zero_le _)
  intro k ih hk
  refine g_iload_2 (pc := 4) C dX4_sumOfAccounts_4 ?_
  refine g_bipush (pc := 5) (v := 6) C dX4_sumOfAccounts_5 rfl ?_
  refine g_icmp_ge (pc := 7) (tgt := 33) C dX4_sumOfAccounts_7 (by decide) (fun c7 => ?_) (fun c7 => ?_)
  · have e : 6 ≤ k := i_le (a := 6) (by omega) (by omega) c7
    refine g_iload_1 (pc := 33) C dX4_sumOfAccounts_33 ?_
    exact g_iret (post := qi (ac f 6) M P) C F dX4_sumOfAccounts_34 ⟨by rw [show k = 6 by omega], rfl, rfl⟩
  · have hk2 : k < 6 := i_nle (a := 6) (by omega) (by omega) c7
    refine g_aload_0 (pc := 10) C dX4_sumOfAccounts_10 ?_
    refine g_iload_2 (pc := 11) C dX4_sumOfAccounts_11 ?_
    refine g_V1qs (pc := 12) C e_X4_sumOfAccounts_43 (Nat.le_of_ble_eq_true rfl) rfl dX4_sumOfAccounts_12 (kk_s0 hs) (c_farmerAt hs hp (i := k) rfl hk2) ?_
    refine g_astore_3 (pc := 15) C dX4_sumOfAccounts_15 ?_
    refine g_aload_3 (pc := 16) C dX4_sumOfAccounts_16 ?_
    refine g_ifnull (pc := 17) C dX4_sumOfAccounts_17 ?_
    refine g_iload_1 (pc := 20) C dX4_sumOfAccounts_20 ?_
    refine g_aload_3 (pc := 21) C dX4_sumOfAccounts_21 ?_
    refine g_geti (pc := 22) C fl_X4_sumOfAccounts_162 (kk_f hs hk2) dX4_sumOfAccounts_22 ?_
    rw [hr.2.1 k hk2 0 (by decide)]
    refine g_iadd (pc := 25) C dX4_sumOfAccounts_25 ?_
    rw [show ac f k + f (13 + 6 * k + 0) = ac f (k + 1) from rfl]
    refine g_istore_1 (pc := 26) C dX4_sumOfAccounts_26 ?_
    refine g_iinc_2 (pc := 27) (v := nI (k + 1)) C dX4_sumOfAccounts_27 (nI_1 k) ?_
    refine g_goto (pc := 30) (tgt := 4) C dX4_sumOfAccounts_30 (by decide) ?_
    refine g_kill_3 ?_
    exact ih (k + 1) (by omega) (by omega)

set_option maxRecDepth 100000 in
set_option maxHeartbeats 1000000 in
theorem c_brokenMachines {l : Launch} {D : va_G} {cy : Nat → ClassId} {B : Nat} {M : MM} {P : PP} {s c q : Nat} {f : FF} (hs : isSt s) (hp : PS P s) (hr : Rp M P s f) (hw : Wf c q f) : KI l D cy B yX4_brokenMachines wsX4_brokenMachines 1 21 [Value.ref (B + s)] M P (qi (br f (mn f)) M P) := by
  refine met_KI (cc := cX4_brokenMachines) (maxL := 4) (ret := (some .int)) (lv := [some (Value.ref (B + s)), none, none, none]) (by decide) rfl rfl rfl (Nat.le_of_ble_eq_true rfl) ?_
  intro X C F
  have h30 := hw.m6
  refine g_iconst (pc := 0) (v := 0) C dX4_brokenMachines_0 rfl ?_
  refine g_istore_1 (pc := 1) C dX4_brokenMachines_1 ?_
  refine g_iconst (pc := 2) (v := 0) C dX4_brokenMachines_2 rfl ?_
  refine g_istore_2 (pc := 3) C dX4_brokenMachines_3 ?_
  refine ind_m (fun (k : Nat) => mn f - k) (p := fun (k : Nat) => k ≤ mn f → G X D cy B 0 0 369 M P 4 [some (Value.ref (B + s)), some (Value.int (br f k)), some (Value.int (nI k)), none] []) ?_ 0 (Nat.zero_le _)
  intro k ih hk
  refine g_iload_2 (pc := 4) C dX4_brokenMachines_4 ?_
  refine g_aload_0 (pc := 5) C dX4_brokenMachines_5 ?_
  refine g_geti (pc := 6) C fl_X4_brokenMachines_51 (kk_s0 hs) dX4_brokenMachines_6 ?_
  rw [hr.1.1, hw.m]
  refine g_icmp_ge (pc := 9) (tgt := 38) C dX4_brokenMachines_9 (by decide) (fun c9 => ?_) (fun c9 => ?_)
  · have e : mn f ≤ k := i_le (by omega) (by omega) c9
    refine g_iload_1 (pc := 38) C dX4_brokenMachines_38 ?_
    exact g_iret (post := qi (br f (mn f)) M P) C F dX4_brokenMachines_39 ⟨by rw [show k = mn f by omega], rfl, rfl⟩
  · have hk2 : k < mn f := i_nle (by omega) (by omega) c9
    have hq := hr.2.2.1 k hk2 (by omega)
    have h01 := (hw.wm hk2).2.2.1
    refine g_aload_0 (pc := 12) C dX4_brokenMachines_12 ?_
    refine g_iload_2 (pc := 13) C dX4_brokenMachines_13 ?_
    refine g_V1qs (pc := 14) C e_X4_brokenMachines_54 (Nat.le_of_ble_eq_true rfl) rfl dX4_brokenMachines_14 (kk_s0 hs) (c_machineAt hs hp hr hw (i := k) rfl hk2) ?_
    refine g_astore_3 (pc := 17) C dX4_brokenMachines_17 ?_
    refine g_aload_3 (pc := 18) C dX4_brokenMachines_18 ?_
    refine g_ifnull (pc := 19) C dX4_brokenMachines_19 ?_
    refine g_aload_3 (pc := 22) C dX4_brokenMachines_22 ?_
    refine g_getz (pc := 23) C fl_X4_brokenMachines_127 (kk_m hs (by omega)) dX4_brokenMachines_23 ?_
    rw [hq.2.2.2.2.1]
    refine g_if_eq (pc := 26) (tgt := 32) C dX4_brokenMachines_26 (by decide) (fun c26 => ?_) (fun c26 => ?_)
    · have e2 : br f (k + 1) = br f k := by simp only [br]; rw [c26]; exact z_add _
      rw [← e2]
      refine g_iinc_2 (pc := 32) (v := nI (k + 1)) C dX4_brokenMachines_32 (nI_1 k) ?_
      refine g_goto (pc := 35) (tgt := 4) C dX4_brokenMachines_35 (by decide) ?_
      refine g_kill_3 ?_
      exact ih (k + 1) (by omega) (by omega)
    · have e2 : br f k + 1 = br f (k + 1) := by simp only [br]; rw [h01.resolve_left c26]
      refine g_iinc_1 (pc := 29) (v := br f (k + 1)) C dX4_brokenMachines_29 e2 ?_
      refine g_iinc_2 (pc := 32) (v := nI (k + 1)) C dX4_brokenMachines_32 (nI_1 k) ?_
      refine g_goto (pc := 35) (tgt := 4) C dX4_brokenMachines_35 (by decide) ?_
      refine g_kill_3 ?_
      exact ih (k + 1) (by omega) (by omega)

set_option maxRecDepth 100000 in
set_option maxHeartbeats 1000000 in
theorem c_machinesIn {l : Launch} {D : va_G} {cy : Nat → ClassId} {B : Nat} {M : MM} {P : PP} {w : Int32} {s c q : Nat} {f : FF} (hs : isSt s) (hp : PS P s) (hr : Rp M P s f) (hw : Wf c q f) : KI l D cy B yX4_machinesIn wsX4_machinesIn 1 21 [Value.ref (B + s), Value.int w] M P (qi (nI (kc f w (mn f))) M P) := by
  refine met_KI (cc := cX4_machinesIn) (maxL := 5) (ret := (some .int)) (lv := [some (Value.ref (B + s)), some (Value.int w), none, none, none]) (by decide) rfl rfl rfl (Nat.le_of_ble_eq_true rfl) ?_
  intro X C F
  have h30 := hw.m6
  refine g_iconst (pc := 0) (v := 0) C dX4_machinesIn_0 rfl ?_
  refine g_istore_2 (pc := 1) C dX4_machinesIn_1 ?_
  refine g_iconst (pc := 2) (v := 0) C dX4_machinesIn_2 rfl ?_
  refine g_istore_3 (pc := 3) C dX4_machinesIn_3 ?_
  refine ind_m (fun (k : Nat) => mn f - k) (p := fun (k : Nat) => k ≤ mn f → G X D cy B 0 0 369 M P 4 [some (Value.ref (B + s)), some (Value.int w), some (Value.int (nI (kc f w k))), some (Value.int (nI k)), none] []) ?_ 0 (Nat.zero_le _)
  intro k ih hk
  refine g_iload_3 (pc := 4) C dX4_machinesIn_4 ?_
  refine g_aload_0 (pc := 5) C dX4_machinesIn_5 ?_
  refine g_geti (pc := 6) C fl_X4_machinesIn_51 (kk_s0 hs) dX4_machinesIn_6 ?_
  rw [hr.1.1, hw.m]
  refine g_icmp_ge (pc := 9) (tgt := 42) C dX4_machinesIn_9 (by decide) (fun c9 => ?_) (fun c9 => ?_)
  · have e : mn f ≤ k := i_le (by omega) (by omega) c9
    refine g_iload_2 (pc := 42) C dX4_machinesIn_42 ?_
    exact g_iret (post := qi (nI (kc f w (mn f))) M P) C F dX4_machinesIn_43 ⟨by rw [show k = mn f by omega], rfl, rfl⟩
  · have hk2 : k < mn f := i_nle (by omega) (by omega) c9
    have hq := hr.2.2.1 k hk2 (by omega)
    refine g_aload_0 (pc := 12) C dX4_machinesIn_12 ?_
    refine g_iload_3 (pc := 13) C dX4_machinesIn_13 ?_
    refine g_V1qs (pc := 14) C e_X4_machinesIn_54 (Nat.le_of_ble_eq_true rfl) rfl dX4_machinesIn_14 (kk_s0 hs) (c_machineAt hs hp hr hw (i := k) rfl hk2) ?_
    refine g_astore_4 (pc := 17) C dX4_machinesIn_17 ?_
    refine g_aload_4 (pc := 19) C dX4_machinesIn_19 ?_
    refine g_ifnull (pc := 21) C dX4_machinesIn_21 ?_
    refine g_aload_4 (pc := 24) C dX4_machinesIn_24 ?_
    refine g_geti (pc := 26) C fl_X4_machinesIn_101 (kk_m hs (by omega)) dX4_machinesIn_26 ?_
    rw [hq.1]
    refine g_iload_1 (pc := 29) C dX4_machinesIn_29 ?_
    refine g_icmp_ne (pc := 30) (tgt := 36) C dX4_machinesIn_30 (by decide) (fun c30 => ?_) (fun c30 => ?_)
    · have e2 : kc f w (k + 1) = kc f w k := by simp only [kc]; rw [if_neg c30]; rfl
      rw [← e2]
      refine g_iinc_3 (pc := 36) (v := nI (k + 1)) C dX4_machinesIn_36 (nI_1 k) ?_
      refine g_goto (pc := 39) (tgt := 4) C dX4_machinesIn_39 (by decide) ?_
      refine g_kill_4 ?_
      exact ih (k + 1) (by omega) (by omega)
    · have e2 : kc f w (k + 1) = kc f w k + 1 := by simp only [kc]; rw [if_pos c30]
      refine g_iinc_2 (pc := 33) (v := nI (kc f w (k + 1))) C dX4_machinesIn_33 (by rw [e2]; exact nI_1 _) ?_
      refine g_iinc_3 (pc := 36) (v := nI (k + 1)) C dX4_machinesIn_36 (nI_1 k) ?_
      refine g_goto (pc := 39) (tgt := 4) C dX4_machinesIn_39 (by decide) ?_
      refine g_kill_4 ?_
      exact ih (k + 1) (by omega) (by omega)

set_option maxRecDepth 100000 in
set_option maxHeartbeats 1000000 in
theorem c_placeOf {l : Launch} {D : va_G} {cy : Nat → ClassId} {B : Nat} {M : MM} {P : PP} {b : Int32} {s c q : Nat} {f : FF} (hs : isSt s) (hp : PS P s) (hr : Rp M P s f) (hw : Wf c q f) : KI l D cy B yX4_placeOf wsX4_placeOf 1 21 [Value.ref (B + s), Value.int b] M P (qi (match plO f b with | some i => nI i | none => -1) M P) := by
  refine met_KI (cc := cX4_placeOf) (maxL := 4) (ret := (some .int)) (lv := [some (Value.ref (B + s)), some (Value.int b), none, none]) (by decide) rfl rfl rfl (Nat.le_of_ble_eq_true rfl) ?_
  intro X C F
  have h30 := hw.s30
  refine g_iconst (pc := 0) (v := 0) C dX4_placeOf_0 rfl ?_
  refine g_istore_2 (pc := 1) C dX4_placeOf_1 ?_
  refine ind_m (fun (k : Nat) => sn f - k) (p := fun (k : Nat) => k ≤ sn f → pl f b k (sn f - k) = plO f b → G X D cy B 0 0 369 M P 2 [some (Value.ref (B + s)), some (Value.int b), some (Value.int (nI k)), none] []) ?_ 0 (Nat.zero_le _) rfl
  intro k ih hk hpl
  refine g_iload_2 (pc := 2) C dX4_placeOf_2 ?_
  refine g_aload_0 (pc := 3) C dX4_placeOf_3 ?_
  refine g_geti (pc := 4) C fl_X4_placeOf_61 (kk_s0 hs) dX4_placeOf_4 ?_
  rw [hr.1.2.1, hw.s]
  refine g_icmp_ge (pc := 7) (tgt := 36) C dX4_placeOf_7 (by decide) (fun c7 => ?_) (fun c7 => ?_)
  · have e : sn f ≤ k := i_le (by omega) (by omega) c7
    have e2 : plO f b = none := by rw [← hpl, show sn f - k = 0 by omega]; rfl
    refine g_iconst (pc := 36) (v := -1) C dX4_placeOf_36 rfl ?_
    exact g_iret (post := qi (match plO f b with | some i => nI i | none => -1) M P) C F dX4_placeOf_37 ⟨by rw [e2], rfl, rfl⟩
  · have hk2 : k < sn f := i_nle (by omega) (by omega) c7
    have hq := hr.2.2.2 k hk2 (by omega)
    refine g_aload_0 (pc := 10) C dX4_placeOf_10 ?_
    refine g_iload_2 (pc := 11) C dX4_placeOf_11 ?_
    refine g_V1qs (pc := 12) C e_X4_placeOf_64 (Nat.le_of_ble_eq_true rfl) rfl dX4_placeOf_12 (kk_s0 hs) (c_bookingAt hs hp hr hw (i := k) rfl hk2) ?_
    refine g_astore_3 (pc := 15) C dX4_placeOf_15 ?_
    refine g_aload_3 (pc := 16) C dX4_placeOf_16 ?_
    refine g_ifnull (pc := 17) C dX4_placeOf_17 ?_
    refine g_aload_3 (pc := 20) C dX4_placeOf_20 ?_
    refine g_geti (pc := 21) C fl_X4_placeOf_98 (hp.kb hs (by omega)) dX4_placeOf_21 ?_
    rw [hq 0 (by decide)]
    refine g_iload_1 (pc := 24) C dX4_placeOf_24 ?_
    refine g_icmp_ne (pc := 25) (tgt := 30) C dX4_placeOf_25 (by decide) (fun c25 => ?_) (fun c25 => ?_)
    · refine g_iinc_2 (pc := 30) (v := nI (k + 1)) C dX4_placeOf_30 (nI_1 k) ?_
      refine g_goto (pc := 33) (tgt := 2) C dX4_placeOf_33 (by decide) ?_
      refine g_kill_3 ?_
      exact ih (k + 1) (by omega) (by omega) (by rw [← hpl, show sn f - k = sn f - (k + 1) + 1 by omega]; simp only [pl]; rw [if_neg c25])
    · have e2 : plO f b = some k := by rw [← hpl, show sn f - k = sn f - (k + 1) + 1 by omega]; simp only [pl]; rw [if_pos c25]
      refine g_iload_2 (pc := 28) C dX4_placeOf_28 ?_
      exact g_iret (post := qi (match plO f b with | some i => nI i | none => -1) M P) C F dX4_placeOf_29 ⟨by rw [e2], rfl, rfl⟩
