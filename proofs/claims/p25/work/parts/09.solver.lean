-- X4_search
def fX4_search (S : Int32 → Int32 → Int32 → Mem → Option (Int32 × Mem)) (p1 : Int32) (p2 : Int32) (p3 : Int32) (M : Mem) : Option (Int32 × Mem) := (if 0 < p1 then (if (fX1_trickSize M) = 0 then (if p3 ≤ (fX2_leastAt (fX1_betweenTricks M) M) then some (fX2_leastAt (fX1_betweenTricks M) M, M) else (if (fX2_leastAt (fX1_betweenTricks M) M) = (fX2_mostAt (fX1_betweenTricks M) (p1 / 4) M) then some (fX2_leastAt (fX1_betweenTricks M) M, M) else (if p2 < (fX2_mostAt (fX1_betweenTricks M) (p1 / 4) M) then (obind (S p1 (mx p2 (fX2_leastAt (fX1_betweenTricks M) M)) (mn p3 (fX2_mostAt (fX1_betweenTricks M) (p1 / 4) M)) M) (fun q6 => (if q6.1 ≤ (mx p2 (fX2_leastAt (fX1_betweenTricks M) M)) then (if (mn p3 (fX2_mostAt (fX1_betweenTricks M) (p1 / 4) M)) ≤ q6.1 then some (q6.1, (fX2_put (fX1_betweenTricks M) (fX2_leastAt (fX1_betweenTricks M) M) (fX2_mostAt (fX1_betweenTricks M) (p1 / 4) M) q6.2)) else some (q6.1, (fX2_put (fX1_betweenTricks M) (fX2_leastAt (fX1_betweenTricks M) M) q6.1 q6.2))) else (if (mn p3 (fX2_mostAt (fX1_betweenTricks M) (p1 / 4) M)) ≤ q6.1 then some (q6.1, (fX2_put (fX1_betweenTricks M) q6.1 (fX2_mostAt (fX1_betweenTricks M) (p1 / 4) M) q6.2)) else some (q6.1, (fX2_put (fX1_betweenTricks M) q6.1 q6.1 q6.2)))))) else some (fX2_mostAt (fX1_betweenTricks M) (p1 / 4) M, M)))) else (obind (S p1 p2 p3 M) (fun q10 => some (q10.1, q10.2)))) else some (0, M))
def rmX4_search (rv : Room) : Room := { frames := rv.frames + 3, cells := 0, slots := 0, locals := rv.locals + 66 }
set_option maxHeartbeats 4000000 in
set_option maxRecDepth 100000 in
theorem kX4_search (l : Launch) (D : va_G) (cA : Nat) (ad : Nat → Nat) (S : Int32 → Int32 → Int32 → Mem → Option (Int32 × Mem)) (rv : Room) (hrv : rv.cells = 0 ∧ rv.slots = 0) (hyS : ∀ (a b c : Int32) (M : Mem) (r : Int32 × Mem), S a b c M = some r → WiX l yX4_tryPlays wsX4_tryPlays rv D cA ad M [.ref (ad 6), .int a, .int b, .int c] r) (p1 : Int32) (p2 : Int32) (p3 : Int32) (M : Mem) (r : Int32 × Mem) (h : fX4_search S p1 p2 p3 M = some r) : WiX l yX4_search wsX4_search (rmX4_search rv) D cA ad M [.ref (ad 6), .int p1, .int p2, .int p3] r := by
  unfold fX4_search at h
  refine WiX.of RX4 rfl rfl rfl (Nat.le_of_ble_eq_true rfl) ?_
  intro p e s m args below meth c Q ls A eA S5 hK hP hD hS hl kr
  have hA : ∀ (H : Heap) (q : Nat), s.heap.size ≤ H.size → AX ad H.size q → A q := fun H q hz h => by rw [eA]; exact AX.mono hz h
  obtain ⟨hx, hb, -, -, hts⟩ := id S5
  have hin : ∀ w ∈ wsX40, w ∈ wsX4_search := fun _ h => List.mem_cons_of_mem _ (List.mem_append_left _ (List.mem_append_left _ (List.mem_append_right _ (h))))
  refine lv_iload_n hx hb dX4_search_0 rfl (lv_at hl 1 rfl) ?_
  refine lv_if_gt (tgt := 6) hx hb dX4_search_1 (by decide) (fun c1 => ?_) (fun c1 => ?_)
  · rw [if_pos c1] at h
    refine lv_aload_n hx hb dX4_search_6 rfl (lv_at hl 0 rfl) ?_
    refine gX4_game S5 hin hK hP (List.mem_of_getElem? (i := 1) rfl) dX4_search_7 ?_
    refine cVX S5 hK hP 0 rfl rfl (As := []) (kX1_trickSize l D cA ad _) (cwV 0 hts gX4_search_X1_trickSize rfl rfl rfl (by decide +kernel) ⟨(Nat.le_trans (Nat.le_of_ble_eq_true rfl) (Nat.le_add_left 3 _)), (Nat.le_trans (Nat.le_of_ble_eq_true rfl) (Nat.le_add_left 66 _))⟩) rfl hl.1 (st0 := _) (rest := []) rfl (Nat.le_of_ble_eq_true rfl) dX4_search_10 ⟨Nat.zero_le _, Nat.zero_le _⟩ ?_
    refine lv_if_eq (tgt := 24) hx hb dX4_search_13 (by decide) (fun c2 => ?_) (fun c2 => ?_)
    · rw [if_pos c2] at h
      refine lv_aload_n hx hb dX4_search_24 rfl (lv_at hl 0 rfl) ?_
      refine gX4_game S5 hin hK hP (List.mem_of_getElem? (i := 1) rfl) dX4_search_25 ?_
      refine cVX S5 hK hP 0 rfl rfl (As := []) (kX1_betweenTricks l D cA ad _) (cwV 0 hts gX4_search_X1_betweenTricks rfl rfl rfl (by decide +kernel) ⟨(Nat.le_trans (Nat.le_of_ble_eq_true rfl) (Nat.le_add_left 3 _)), (Nat.le_trans (Nat.le_of_ble_eq_true rfl) (Nat.le_add_left 66 _))⟩) rfl hl.1 (st0 := _) (rest := []) rfl (Nat.le_of_ble_eq_true rfl) dX4_search_28 ⟨Nat.zero_le _, Nat.zero_le _⟩ ?_
      refine lv_istore (lv' := [(4, .int (fX1_betweenTricks M)), (0, .ref (ad 6)), (1, .int p1), (2, .int p2), (3, .int p3)]) hx hb dX4_search_31 hl (by decide) rfl (fun ls hl => ?_)
      refine lv_aload_n hx hb dX4_search_33 rfl (lv_at hl 1 rfl) ?_
      refine gX4_kept S5 hin hK hP (List.mem_of_getElem? (i := 2) rfl) dX4_search_34 ?_
      refine lv_iload hx hb dX4_search_37 (lv_at hl 0 rfl) ?_
      refine cVX S5 hK hP 4 rfl rfl (As := [.int (fX1_betweenTricks M)]) (kX2_leastAt l D cA ad _ _) (cwV 1 hts gX4_search_X2_leastAt rfl rfl rfl (by decide +kernel) ⟨(Nat.le_trans (Nat.le_of_ble_eq_true rfl) (Nat.le_add_left 3 _)), (Nat.le_trans (Nat.le_of_ble_eq_true rfl) (Nat.le_add_left 66 _))⟩) rfl hl.1 (st0 := _) (rest := []) rfl (Nat.le_of_ble_eq_true rfl) dX4_search_39 ⟨Nat.zero_le _, Nat.zero_le _⟩ ?_
      refine lv_istore (lv' := [(5, .int (fX2_leastAt (fX1_betweenTricks M) M)), (4, .int (fX1_betweenTricks M)), (0, .ref (ad 6)), (1, .int p1), (2, .int p2), (3, .int p3)]) hx hb dX4_search_42 hl (by decide) rfl (fun ls hl => ?_)
      refine lv_aload_n hx hb dX4_search_44 rfl (lv_at hl 2 rfl) ?_
      refine gX4_kept S5 hin hK hP (List.mem_of_getElem? (i := 2) rfl) dX4_search_45 ?_
      refine lv_iload hx hb dX4_search_48 (lv_at hl 1 rfl) ?_
      refine lv_iload_n hx hb dX4_search_50 rfl (lv_at hl 3 rfl) ?_
      refine lv_iconst (v := 4) hx hb dX4_search_51 (by decide) ?_
      refine r_idiv S5 dX4_search_52 (by decide) ?_
      refine cVX S5 hK hP 4 rfl rfl (As := [.int (fX1_betweenTricks M), .int (p1 / 4)]) (kX2_mostAt l D cA ad _ _ _) (cwV 2 hts gX4_search_X2_mostAt rfl rfl rfl (by decide +kernel) ⟨(Nat.le_trans (Nat.le_of_ble_eq_true rfl) (Nat.le_add_left 3 _)), (Nat.le_trans (Nat.le_of_ble_eq_true rfl) (Nat.le_add_left 66 _))⟩) rfl hl.1 (st0 := _) (rest := []) rfl (Nat.le_of_ble_eq_true rfl) dX4_search_53 ⟨Nat.zero_le _, Nat.zero_le _⟩ ?_
      refine lv_istore (lv' := [(6, .int (fX2_mostAt (fX1_betweenTricks M) (p1 / 4) M)), (5, .int (fX2_leastAt (fX1_betweenTricks M) M)), (4, .int (fX1_betweenTricks M)), (0, .ref (ad 6)), (1, .int p1), (2, .int p2), (3, .int p3)]) hx hb dX4_search_56 hl (by decide) rfl (fun ls hl => ?_)
      refine lv_iload hx hb dX4_search_58 (lv_at hl 1 rfl) ?_
      refine lv_iload_n hx hb dX4_search_60 rfl (lv_at hl 6 rfl) ?_
      refine lv_icmp_ge (tgt := 71) hx hb dX4_search_61 (by decide) (fun c3 => ?_) (fun c3 => ?_)
      · rw [if_pos c3] at h
        refine lv_iload hx hb dX4_search_71 (lv_at hl 1 rfl) ?_
        obtain rfl := Option.some.inj h
        exact kr _ _ _ _ _ rfl rfl hP hS dX4_search_73
      · rw [if_neg c3] at h
        refine lv_iload hx hb dX4_search_64 (lv_at hl 1 rfl) ?_
        refine lv_iload hx hb dX4_search_66 (lv_at hl 0 rfl) ?_
        refine lv_icmp_ne (tgt := 74) hx hb dX4_search_68 (by decide) (fun c4 => ?_) (fun c4 => ?_)
        · rw [if_neg c4] at h
          refine lv_iload hx hb dX4_search_74 (lv_at hl 0 rfl) ?_
          refine lv_iload_n hx hb dX4_search_76 rfl (lv_at hl 5 rfl) ?_
          refine lv_icmp_gt (tgt := 83) hx hb dX4_search_77 (by decide) (fun c5 => ?_) (fun c5 => ?_)
          · rw [if_pos c5] at h
            refine lv_iload_n hx hb dX4_search_83 rfl (lv_at hl 5 rfl) ?_
            refine lv_iload hx hb dX4_search_84 (lv_at hl 1 rfl) ?_
            refine r_max S5 hl.1 (List.mem_of_getElem? (i := 3) rfl) (List.mem_of_getElem? (i := 4) rfl) (List.mem_of_getElem? (i := 5) rfl) (List.mem_of_getElem? (i := 6) rfl) (Nat.le_trans (Nat.le_of_ble_eq_true rfl) (Nat.le_add_left 3 _)) (Nat.le_trans (Nat.le_of_ble_eq_true rfl) (Nat.le_add_left 66 _)) (Nat.zero_le _) (Nat.zero_le _) dX4_search_86 ?_
            refine lv_istore (lv' := [(7, .int (mx p2 (fX2_leastAt (fX1_betweenTricks M) M))), (6, .int (fX2_mostAt (fX1_betweenTricks M) (p1 / 4) M)), (5, .int (fX2_leastAt (fX1_betweenTricks M) M)), (4, .int (fX1_betweenTricks M)), (0, .ref (ad 6)), (1, .int p1), (2, .int p2), (3, .int p3)]) hx hb dX4_search_89 hl (by decide) rfl (fun ls hl => ?_)
            refine lv_iload_n hx hb dX4_search_91 rfl (lv_at hl 7 rfl) ?_
            refine lv_iload hx hb dX4_search_92 (lv_at hl 1 rfl) ?_
            refine r_min S5 hl.1 (List.mem_of_getElem? (i := 7) rfl) (List.mem_of_getElem? (i := 8) rfl) (List.mem_of_getElem? (i := 5) rfl) (List.mem_of_getElem? (i := 9) rfl) (Nat.le_trans (Nat.le_of_ble_eq_true rfl) (Nat.le_add_left 3 _)) (Nat.le_trans (Nat.le_of_ble_eq_true rfl) (Nat.le_add_left 66 _)) (Nat.zero_le _) (Nat.zero_le _) dX4_search_94 ?_
            refine lv_istore (lv' := [(8, .int (mn p3 (fX2_mostAt (fX1_betweenTricks M) (p1 / 4) M))), (7, .int (mx p2 (fX2_leastAt (fX1_betweenTricks M) M))), (6, .int (fX2_mostAt (fX1_betweenTricks M) (p1 / 4) M)), (5, .int (fX2_leastAt (fX1_betweenTricks M) M)), (4, .int (fX1_betweenTricks M)), (0, .ref (ad 6)), (1, .int p1), (2, .int p2), (3, .int p3)]) hx hb dX4_search_97 hl (by decide) rfl (fun ls hl => ?_)
            refine lv_aload_n hx hb dX4_search_99 rfl (lv_at hl 5 rfl) ?_
            refine lv_iload_n hx hb dX4_search_100 rfl (lv_at hl 6 rfl) ?_
            refine lv_iload hx hb dX4_search_101 (lv_at hl 1 rfl) ?_
            refine lv_iload hx hb dX4_search_103 (lv_at hl 0 rfl) ?_
            obtain ⟨q6, hqq6, h⟩ := obind_some h
            refine cWiX S5 hK hP hD hS (fun _ h => hA _ _ hS.1 h) 6 rfl rfl (As := [.int p1, .int (mx p2 (fX2_leastAt (fX1_betweenTricks M) M)), .int (mn p3 (fX2_mostAt (fX1_betweenTricks M) (p1 / 4) M))]) (hyS _ _ _ _ _ hqq6) (cwV 3 hts gX4_search_X4_tryPlays rfl hrv.1 hrv.2 (by decide +kernel) ⟨(by show rv.frames + 1 ≤ rv.frames + 3; omega), (by show 8 + (13 + 11) + rv.locals ≤ rv.locals + 66; omega)⟩) rfl hl.1 (st0 := _) (rest := []) rfl (Nat.le_of_ble_eq_true rfl) dX4_search_105 ⟨Nat.zero_le _, Nat.zero_le _⟩ (fun H locs hz hP hS => ?_)
            refine lv_istore (lv' := [(9, .int q6.1), (8, .int (mn p3 (fX2_mostAt (fX1_betweenTricks M) (p1 / 4) M))), (7, .int (mx p2 (fX2_leastAt (fX1_betweenTricks M) M))), (6, .int (fX2_mostAt (fX1_betweenTricks M) (p1 / 4) M)), (5, .int (fX2_leastAt (fX1_betweenTricks M) M)), (4, .int (fX1_betweenTricks M)), (0, .ref (ad 6)), (1, .int p1), (2, .int p2), (3, .int p3)]) hx hb dX4_search_108 hl (by decide) rfl (fun ls hl => ?_)
            refine lv_aload_n hx hb dX4_search_110 rfl (lv_at hl 6 rfl) ?_
            refine gX4_kept S5 hin hK hP (List.mem_of_getElem? (i := 2) rfl) dX4_search_111 ?_
            refine lv_iload hx hb dX4_search_114 (lv_at hl 5 rfl) ?_
            refine lv_iload hx hb dX4_search_116 (lv_at hl 0 rfl) ?_
            refine lv_iload hx hb dX4_search_118 (lv_at hl 2 rfl) ?_
            refine lv_icmp_le (tgt := 128) hx hb dX4_search_120 (by decide) (fun c7 => ?_) (fun c7 => ?_)
            · rw [if_pos c7] at h
              refine lv_iload hx hb dX4_search_128 (lv_at hl 4 rfl) ?_
              refine lv_iload hx hb dX4_search_130 (lv_at hl 0 rfl) ?_
              refine lv_iload hx hb dX4_search_132 (lv_at hl 1 rfl) ?_
              refine lv_icmp_ge (tgt := 142) hx hb dX4_search_134 (by decide) (fun c8 => ?_) (fun c8 => ?_)
              · rw [if_pos c8] at h
                refine lv_iload hx hb dX4_search_142 (lv_at hl 3 rfl) ?_
                refine cWvX S5 hK hP hD hS (fun _ h => hA _ _ hS.1 h) 4 rfl rfl (As := [.int (fX1_betweenTricks M), .int (fX2_leastAt (fX1_betweenTricks M) M), .int (fX2_mostAt (fX1_betweenTricks M) (p1 / 4) M)]) (kX2_put l D cA ad _ _ _ _) (cwV 3 hts gX4_search_X2_put rfl rfl rfl (by decide +kernel) ⟨(Nat.le_trans (Nat.le_of_ble_eq_true rfl) (Nat.le_add_left 3 _)), (Nat.le_trans (Nat.le_of_ble_eq_true rfl) (Nat.le_add_left 66 _))⟩) rfl hl.1 (st0 := _) (rest := []) rfl (Nat.le_of_ble_eq_true rfl) dX4_search_144 ⟨Nat.zero_le _, Nat.zero_le _⟩ (fun H locs hz hP hS => ?_)
                refine lv_iload hx hb dX4_search_147 (lv_at hl 0 rfl) ?_
                obtain rfl := Option.some.inj h
                exact kr _ _ _ _ _ rfl rfl hP hS dX4_search_149
              · rw [if_neg c8] at h
                refine lv_iload hx hb dX4_search_137 (lv_at hl 0 rfl) ?_
                refine lv_goto (tgt := 144) hx hb dX4_search_139 (by decide) ?_
                refine cWvX S5 hK hP hD hS (fun _ h => hA _ _ hS.1 h) 4 rfl rfl (As := [.int (fX1_betweenTricks M), .int (fX2_leastAt (fX1_betweenTricks M) M), .int q6.1]) (kX2_put l D cA ad _ _ _ _) (cwV 3 hts gX4_search_X2_put rfl rfl rfl (by decide +kernel) ⟨(Nat.le_trans (Nat.le_of_ble_eq_true rfl) (Nat.le_add_left 3 _)), (Nat.le_trans (Nat.le_of_ble_eq_true rfl) (Nat.le_add_left 66 _))⟩) rfl hl.1 (st0 := _) (rest := []) rfl (Nat.le_of_ble_eq_true rfl) dX4_search_144 ⟨Nat.zero_le _, Nat.zero_le _⟩ (fun H locs hz hP hS => ?_)
                refine lv_iload hx hb dX4_search_147 (lv_at hl 0 rfl) ?_
                obtain rfl := Option.some.inj h
                exact kr _ _ _ _ _ rfl rfl hP hS dX4_search_149
            · rw [if_neg c7] at h
              refine lv_iload hx hb dX4_search_123 (lv_at hl 0 rfl) ?_
              refine lv_goto (tgt := 130) hx hb dX4_search_125 (by decide) ?_
              refine lv_iload hx hb dX4_search_130 (lv_at hl 0 rfl) ?_
              refine lv_iload hx hb dX4_search_132 (lv_at hl 1 rfl) ?_
              refine lv_icmp_ge (tgt := 142) hx hb dX4_search_134 (by decide) (fun c9 => ?_) (fun c9 => ?_)
              · rw [if_pos c9] at h
                refine lv_iload hx hb dX4_search_142 (lv_at hl 3 rfl) ?_
                refine cWvX S5 hK hP hD hS (fun _ h => hA _ _ hS.1 h) 4 rfl rfl (As := [.int (fX1_betweenTricks M), .int q6.1, .int (fX2_mostAt (fX1_betweenTricks M) (p1 / 4) M)]) (kX2_put l D cA ad _ _ _ _) (cwV 3 hts gX4_search_X2_put rfl rfl rfl (by decide +kernel) ⟨(Nat.le_trans (Nat.le_of_ble_eq_true rfl) (Nat.le_add_left 3 _)), (Nat.le_trans (Nat.le_of_ble_eq_true rfl) (Nat.le_add_left 66 _))⟩) rfl hl.1 (st0 := _) (rest := []) rfl (Nat.le_of_ble_eq_true rfl) dX4_search_144 ⟨Nat.zero_le _, Nat.zero_le _⟩ (fun H locs hz hP hS => ?_)
                refine lv_iload hx hb dX4_search_147 (lv_at hl 0 rfl) ?_
                obtain rfl := Option.some.inj h
                exact kr _ _ _ _ _ rfl rfl hP hS dX4_search_149
              · rw [if_neg c9] at h
                refine lv_iload hx hb dX4_search_137 (lv_at hl 0 rfl) ?_
                refine lv_goto (tgt := 144) hx hb dX4_search_139 (by decide) ?_
                refine cWvX S5 hK hP hD hS (fun _ h => hA _ _ hS.1 h) 4 rfl rfl (As := [.int (fX1_betweenTricks M), .int q6.1, .int q6.1]) (kX2_put l D cA ad _ _ _ _) (cwV 3 hts gX4_search_X2_put rfl rfl rfl (by decide +kernel) ⟨(Nat.le_trans (Nat.le_of_ble_eq_true rfl) (Nat.le_add_left 3 _)), (Nat.le_trans (Nat.le_of_ble_eq_true rfl) (Nat.le_add_left 66 _))⟩) rfl hl.1 (st0 := _) (rest := []) rfl (Nat.le_of_ble_eq_true rfl) dX4_search_144 ⟨Nat.zero_le _, Nat.zero_le _⟩ (fun H locs hz hP hS => ?_)
                refine lv_iload hx hb dX4_search_147 (lv_at hl 0 rfl) ?_
                obtain rfl := Option.some.inj h
                exact kr _ _ _ _ _ rfl rfl hP hS dX4_search_149
          · rw [if_neg c5] at h
            refine lv_iload hx hb dX4_search_80 (lv_at hl 0 rfl) ?_
            obtain rfl := Option.some.inj h
            exact kr _ _ _ _ _ rfl rfl hP hS dX4_search_82
        · rw [if_pos c4] at h
          refine lv_iload hx hb dX4_search_71 (lv_at hl 1 rfl) ?_
          obtain rfl := Option.some.inj h
          exact kr _ _ _ _ _ rfl rfl hP hS dX4_search_73
    · rw [if_neg c2] at h
      refine lv_aload_n hx hb dX4_search_16 rfl (lv_at hl 0 rfl) ?_
      refine lv_iload_n hx hb dX4_search_17 rfl (lv_at hl 1 rfl) ?_
      refine lv_iload_n hx hb dX4_search_18 rfl (lv_at hl 2 rfl) ?_
      refine lv_iload_n hx hb dX4_search_19 rfl (lv_at hl 3 rfl) ?_
      obtain ⟨q10, hqq10, h⟩ := obind_some h
      refine cWiX S5 hK hP hD hS (fun _ h => hA _ _ hS.1 h) 6 rfl rfl (As := [.int p1, .int p2, .int p3]) (hyS _ _ _ _ _ hqq10) (cwV 3 hts gX4_search_X4_tryPlays rfl hrv.1 hrv.2 (by decide +kernel) ⟨(by show rv.frames + 1 ≤ rv.frames + 3; omega), (by show 8 + (13 + 11) + rv.locals ≤ rv.locals + 66; omega)⟩) rfl hl.1 (st0 := _) (rest := []) rfl (Nat.le_of_ble_eq_true rfl) dX4_search_20 ⟨Nat.zero_le _, Nat.zero_le _⟩ (fun H locs hz hP hS => ?_)
      obtain rfl := Option.some.inj h
      exact kr _ _ _ _ _ rfl rfl hP hS dX4_search_23
  · rw [if_neg c1] at h
    refine lv_iconst (v := 0) hx hb dX4_search_4 (by decide) ?_
    obtain rfl := Option.some.inj h
    exact kr _ _ _ _ _ rfl rfl hP hS dX4_search_5

-- X4_tryPlays
def fX4_tryPlays_L60 (S : Int32 → Int32 → Int32 → Mem → Option (Int32 × Mem)) : Nat → Int32 → Int32 → Int32 → Int32 → Int32 → Int32 → Int32 → Mem → Option (Int32 × Mem)
  | 0, _, _, _, _, _, _, _, _ => none
  | n + 1, v1, v4, v5, v6, v7, v8, v9, M => (if 4 ≤ v9 then some (v8, M) else (if v5 = 0 then some (v8, M) else (if v7 ≤ v6 then some (v8, M) else (obind (fX1_lay (fX0_highest v5) M) (fun q13 => (obind (S (v1 - 1) (v6 - (fX4_gainOf q13.1)) (v7 - (fX4_gainOf q13.1)) q13.2) (fun q14 => (if v4 = 0 then fX4_tryPlays_L60 S n v1 v4 (v5 &&& ((sl 1 (fX0_highest v5)) ^^^ ((-1)))) v6 (mn v7 (mn v8 ((fX4_gainOf q13.1) + q14.1))) (mn v8 ((fX4_gainOf q13.1) + q14.1)) (v9 + 1) ((fX1_lift q14.2).2) else fX4_tryPlays_L60 S n v1 v4 (v5 &&& ((sl 1 (fX0_highest v5)) ^^^ ((-1)))) (mx v6 (mx v8 ((fX4_gainOf q13.1) + q14.1))) v7 (mx v8 ((fX4_gainOf q13.1) + q14.1)) (v9 + 1) ((fX1_lift q14.2).2)))))))))
def fX4_tryPlays (S : Int32 → Int32 → Int32 → Mem → Option (Int32 × Mem)) (p1 : Int32) (p2 : Int32) (p3 : Int32) (M : Mem) : Option (Int32 × Mem) := (if (fX0_sideOf (fX1_mover M)) = 0 then (obind (fX1_out M) (fun q6 => (obind (fX0_lowestOfEquals (fX1_playable M) q6) (fun q7 => (obind (fX4_tryPlays_L60 S 40 p1 1 q7 p2 p3 ((-1)) 0 M) (fun q9 => some (q9.1, q9.2))))))) else (obind (fX1_out M) (fun q2 => (obind (fX0_lowestOfEquals (fX1_playable M) q2) (fun q3 => (obind (fX4_tryPlays_L60 S 40 p1 0 q3 p2 p3 5 0 M) (fun q5 => some (q5.1, q5.2))))))))
def rmX4_tryPlays (rv : Room) : Room := { frames := rv.frames + 3, cells := 0, slots := 0, locals := rv.locals + 70 }
set_option maxHeartbeats 4000000 in
set_option maxRecDepth 100000 in
theorem kX4_tryPlays (l : Launch) (D : va_G) (cA : Nat) (ad : Nat → Nat) (S : Int32 → Int32 → Int32 → Mem → Option (Int32 × Mem)) (rv : Room) (hrv : rv.cells = 0 ∧ rv.slots = 0) (hyS : ∀ (a b c : Int32) (M : Mem) (r : Int32 × Mem), S a b c M = some r → WiX l yX4_search wsX4_search rv D cA ad M [.ref (ad 6), .int a, .int b, .int c] r) (p1 : Int32) (p2 : Int32) (p3 : Int32) (M : Mem) (r : Int32 × Mem) (h : fX4_tryPlays S p1 p2 p3 M = some r) : WiX l yX4_tryPlays wsX4_tryPlays (rmX4_tryPlays rv) D cA ad M [.ref (ad 6), .int p1, .int p2, .int p3] r := by
  unfold fX4_tryPlays at h
  refine WiX.of RX4 rfl rfl rfl (Nat.le_of_ble_eq_true rfl) ?_
  intro p e s m args below meth c Q ls A eA S5 hK hP hD hS hl kr
  have hA : ∀ (H : Heap) (q : Nat), s.heap.size ≤ H.size → AX ad H.size q → A q := fun H q hz h => by rw [eA]; exact AX.mono hz h
  obtain ⟨hx, hb, -, -, hts⟩ := id S5
  have hin : ∀ w ∈ wsX40, w ∈ wsX4_tryPlays := fun _ h => List.mem_cons_of_mem _ (List.mem_append_left _ (List.mem_append_left _ (List.mem_append_right _ (h))))
  have L60 : ∀ (n : Nat) (v1 : Int32) (v4 : Int32) (v5 : Int32) (v6 : Int32) (v7 : Int32) (v8 : Int32) (v9 : Int32) (M : Mem) (r' : Int32 × Mem) (H : Heap) (locs : List Loc) (ls : Array Slot), fX4_tryPlays_L60 S n v1 v4 v5 v6 v7 v8 v9 M = some r' → va_P D vwCl (wX cA ad M) H → va_S A s.heap H locs → lv_has ls 13 [(0, .ref (ad 6)), (1, .int v1), (4, .int v4), (5, .int v5), (6, .int v6), (7, .int v7), (8, .int v8), (9, .int v9)] → (∀ (H : Heap) (locs : List Loc), va_P D vwCl (wX cA ad (r'.2)) H → va_S A s.heap H locs → ∀ (ls : Array Slot), lv_has ls 13 [(0, .ref (ad 6)), (1, .int v1), (4, .int v4), (8, .int (r'.1))] → W p l e (rmX4_tryPlays rv) s m args below meth c H locs 0 0 Q (F0 m 190 ls [])) → W p l e (rmX4_tryPlays rv) s m args below meth c H locs 0 0 Q (F0 m 60 ls []) := by
    intro n
    induction n with
    | zero => intro v1 v4 v5 v6 v7 v8 v9 M r' H locs ls h hP hS hl kk; rw [fX4_tryPlays_L60.eq_1] at h; cases h
    | succ n ih =>
      intro v1 v4 v5 v6 v7 v8 v9 M r' H locs ls h hP hS hl kk
      rw [fX4_tryPlays_L60.eq_2] at h
      refine lv_iload hx hb dX4_tryPlays_60 (lv_at hl 7 rfl) ?_
      refine lv_iconst (v := 4) hx hb dX4_tryPlays_62 (by decide) ?_
      refine lv_icmp_ge (tgt := 190) hx hb dX4_tryPlays_63 (by decide) (fun c10 => ?_) (fun c10 => ?_)
      · rw [if_pos c10] at h
        obtain rfl := Option.some.inj h
        exact kk _ _ hP hS _ (lv_sub hl [0, 1, 2, 6] rfl)
      · rw [if_neg c10] at h
        refine lv_iload hx hb dX4_tryPlays_66 (lv_at hl 3 rfl) ?_
        refine lv_if_eq (tgt := 190) hx hb dX4_tryPlays_68 (by decide) (fun c11 => ?_) (fun c11 => ?_)
        · rw [if_pos c11] at h
          obtain rfl := Option.some.inj h
          exact kk _ _ hP hS _ (lv_sub hl [0, 1, 2, 6] rfl)
        · rw [if_neg c11] at h
          refine lv_iload hx hb dX4_tryPlays_71 (lv_at hl 4 rfl) ?_
          refine lv_iload hx hb dX4_tryPlays_73 (lv_at hl 5 rfl) ?_
          refine lv_icmp_ge (tgt := 190) hx hb dX4_tryPlays_75 (by decide) (fun c12 => ?_) (fun c12 => ?_)
          · rw [if_pos c12] at h
            obtain rfl := Option.some.inj h
            exact kk _ _ hP hS _ (lv_sub hl [0, 1, 2, 6] rfl)
          · rw [if_neg c12] at h
            refine lv_iload hx hb dX4_tryPlays_78 (lv_at hl 3 rfl) ?_
            refine cS S5 (As := [.int v5]) (kX0_highest l _) (va_cwS 1 hts gX4_tryPlays_X0_highest rfl rfl rfl (by decide +kernel) ⟨(Nat.le_trans (Nat.le_of_ble_eq_true rfl) (Nat.le_add_left 3 _)), (Nat.le_trans (Nat.le_of_ble_eq_true rfl) (Nat.le_add_left 70 _))⟩) rfl hl.1 (st0 := _) (rest := []) rfl (Nat.le_of_ble_eq_true rfl) dX4_tryPlays_80 ⟨Nat.zero_le _, Nat.zero_le _⟩ ?_
            refine lv_istore (lv' := [(10, .int (fX0_highest v5)), (0, .ref (ad 6)), (1, .int v1), (4, .int v4), (5, .int v5), (6, .int v6), (7, .int v7), (8, .int v8), (9, .int v9)]) hx hb dX4_tryPlays_83 hl (by decide) rfl (fun ls hl => ?_)
            refine lv_iload hx hb dX4_tryPlays_85 (lv_at hl 4 rfl) ?_
            refine lv_iconst (v := 1) hx hb dX4_tryPlays_87 (by decide) ?_
            refine lv_iload hx hb dX4_tryPlays_88 (lv_at hl 0 rfl) ?_
            refine r_ishl S5 dX4_tryPlays_90 ?_
            refine lv_iconst (v := (-1)) hx hb dX4_tryPlays_91 (by decide) ?_
            refine lv_ixor hx hb dX4_tryPlays_92 ?_
            refine lv_iand hx hb dX4_tryPlays_93 ?_
            refine lv_istore (lv' := [(5, .int (v5 &&& ((sl 1 (fX0_highest v5)) ^^^ ((-1))))), (10, .int (fX0_highest v5)), (0, .ref (ad 6)), (1, .int v1), (4, .int v4), (6, .int v6), (7, .int v7), (8, .int v8), (9, .int v9)]) hx hb dX4_tryPlays_94 hl (by decide) rfl (fun ls hl => ?_)
            refine lv_aload_n hx hb dX4_tryPlays_96 rfl (lv_at hl 2 rfl) ?_
            refine gX4_game S5 hin hK hP (List.mem_of_getElem? (i := 1) rfl) dX4_tryPlays_97 ?_
            refine lv_iload hx hb dX4_tryPlays_100 (lv_at hl 1 rfl) ?_
            obtain ⟨q13, hqq13, h⟩ := obind_some h
            refine cWiX S5 hK hP hD hS (fun _ h => hA _ _ hS.1 h) 0 rfl rfl (As := [.int (fX0_highest v5)]) (kX1_lay l D cA ad _ _ _ hqq13) (cwV 1 hts gX4_tryPlays_X1_lay rfl rfl rfl (by decide +kernel) ⟨(Nat.le_trans (Nat.le_of_ble_eq_true rfl) (Nat.le_add_left 3 _)), (Nat.le_trans (Nat.le_of_ble_eq_true rfl) (Nat.le_add_left 70 _))⟩) rfl hl.1 (st0 := _) (rest := []) rfl (Nat.le_of_ble_eq_true rfl) dX4_tryPlays_102 ⟨Nat.zero_le _, Nat.zero_le _⟩ (fun H locs hz hP hS => ?_)
            refine cS S5 (As := [.int q13.1]) (kX4_gainOf l _) (va_cwS 1 hts gX4_tryPlays_X4_gainOf rfl rfl rfl (by decide +kernel) ⟨(Nat.le_trans (Nat.le_of_ble_eq_true rfl) (Nat.le_add_left 3 _)), (Nat.le_trans (Nat.le_of_ble_eq_true rfl) (Nat.le_add_left 70 _))⟩) rfl hl.1 (st0 := _) (rest := []) rfl (Nat.le_of_ble_eq_true rfl) dX4_tryPlays_105 ⟨Nat.zero_le _, Nat.zero_le _⟩ ?_
            refine lv_istore (lv' := [(11, .int (fX4_gainOf q13.1)), (5, .int (v5 &&& ((sl 1 (fX0_highest v5)) ^^^ ((-1))))), (10, .int (fX0_highest v5)), (0, .ref (ad 6)), (1, .int v1), (4, .int v4), (6, .int v6), (7, .int v7), (8, .int v8), (9, .int v9)]) hx hb dX4_tryPlays_108 hl (by decide) rfl (fun ls hl => ?_)
            refine lv_iload hx hb dX4_tryPlays_110 (lv_at hl 0 rfl) ?_
            refine lv_aload_n hx hb dX4_tryPlays_112 rfl (lv_at hl 3 rfl) ?_
            refine lv_iload_n hx hb dX4_tryPlays_113 rfl (lv_at hl 4 rfl) ?_
            refine lv_iconst (v := 1) hx hb dX4_tryPlays_114 (by decide) ?_
            refine lv_isub hx hb dX4_tryPlays_115 ?_
            refine lv_iload hx hb dX4_tryPlays_116 (lv_at hl 6 rfl) ?_
            refine lv_iload hx hb dX4_tryPlays_118 (lv_at hl 0 rfl) ?_
            refine lv_isub hx hb dX4_tryPlays_120 ?_
            refine lv_iload hx hb dX4_tryPlays_121 (lv_at hl 7 rfl) ?_
            refine lv_iload hx hb dX4_tryPlays_123 (lv_at hl 0 rfl) ?_
            refine lv_isub hx hb dX4_tryPlays_125 ?_
            obtain ⟨q14, hqq14, h⟩ := obind_some h
            refine cWiX S5 hK hP hD hS (fun _ h => hA _ _ hS.1 h) 6 rfl rfl (As := [.int (v1 - 1), .int (v6 - (fX4_gainOf q13.1)), .int (v7 - (fX4_gainOf q13.1))]) (hyS _ _ _ _ _ hqq14) (cwV 3 hts gX4_tryPlays_X4_search rfl hrv.1 hrv.2 (by decide +kernel) ⟨(by show rv.frames + 1 ≤ rv.frames + 3; omega), (by show 8 + (10 + 11) + rv.locals ≤ rv.locals + 70; omega)⟩) rfl hl.1 (st0 := _) (rest := [.int (fX4_gainOf q13.1)]) rfl (Nat.le_of_ble_eq_true rfl) dX4_tryPlays_126 ⟨Nat.zero_le _, Nat.zero_le _⟩ (fun H locs hz hP hS => ?_)
            refine lv_iadd hx hb dX4_tryPlays_129 ?_
            refine lv_istore (lv' := [(12, .int ((fX4_gainOf q13.1) + q14.1)), (11, .int (fX4_gainOf q13.1)), (5, .int (v5 &&& ((sl 1 (fX0_highest v5)) ^^^ ((-1))))), (10, .int (fX0_highest v5)), (0, .ref (ad 6)), (1, .int v1), (4, .int v4), (6, .int v6), (7, .int v7), (8, .int v8), (9, .int v9)]) hx hb dX4_tryPlays_130 hl (by decide) rfl (fun ls hl => ?_)
            refine lv_aload_n hx hb dX4_tryPlays_132 rfl (lv_at hl 4 rfl) ?_
            refine gX4_game S5 hin hK hP (List.mem_of_getElem? (i := 1) rfl) dX4_tryPlays_133 ?_
            refine cWiX S5 hK hP hD hS (fun _ h => hA _ _ hS.1 h) 0 rfl rfl (As := []) (kX1_lift l D cA ad _) (cwV 0 hts gX4_tryPlays_X1_lift rfl rfl rfl (by decide +kernel) ⟨(Nat.le_trans (Nat.le_of_ble_eq_true rfl) (Nat.le_add_left 3 _)), (Nat.le_trans (Nat.le_of_ble_eq_true rfl) (Nat.le_add_left 70 _))⟩) rfl hl.1 (st0 := _) (rest := []) rfl (Nat.le_of_ble_eq_true rfl) dX4_tryPlays_136 ⟨Nat.zero_le _, Nat.zero_le _⟩ (fun H locs hz hP hS => ?_)
            refine lv_pop hx hb dX4_tryPlays_139 rfl ?_
            refine lv_iload hx hb dX4_tryPlays_140 (lv_at hl 6 rfl) ?_
            refine lv_if_eq (tgt := 166) hx hb dX4_tryPlays_142 (by decide) (fun c15 => ?_) (fun c15 => ?_)
            · rw [if_pos c15] at h
              refine lv_iload hx hb dX4_tryPlays_166 (lv_at hl 9 rfl) ?_
              refine lv_iload hx hb dX4_tryPlays_168 (lv_at hl 0 rfl) ?_
              refine r_min S5 hl.1 (List.mem_of_getElem? (i := 6) rfl) (List.mem_of_getElem? (i := 7) rfl) (List.mem_of_getElem? (i := 4) rfl) (List.mem_of_getElem? (i := 8) rfl) (Nat.le_trans (Nat.le_of_ble_eq_true rfl) (Nat.le_add_left 3 _)) (Nat.le_trans (Nat.le_of_ble_eq_true rfl) (Nat.le_add_left 70 _)) (Nat.zero_le _) (Nat.zero_le _) dX4_tryPlays_170 ?_
              refine lv_istore (lv' := [(8, .int (mn v8 ((fX4_gainOf q13.1) + q14.1))), (12, .int ((fX4_gainOf q13.1) + q14.1)), (11, .int (fX4_gainOf q13.1)), (5, .int (v5 &&& ((sl 1 (fX0_highest v5)) ^^^ ((-1))))), (10, .int (fX0_highest v5)), (0, .ref (ad 6)), (1, .int v1), (4, .int v4), (6, .int v6), (7, .int v7), (9, .int v9)]) hx hb dX4_tryPlays_173 hl (by decide) rfl (fun ls hl => ?_)
              refine lv_iload hx hb dX4_tryPlays_175 (lv_at hl 9 rfl) ?_
              refine lv_iload hx hb dX4_tryPlays_177 (lv_at hl 0 rfl) ?_
              refine r_min S5 hl.1 (List.mem_of_getElem? (i := 6) rfl) (List.mem_of_getElem? (i := 7) rfl) (List.mem_of_getElem? (i := 4) rfl) (List.mem_of_getElem? (i := 8) rfl) (Nat.le_trans (Nat.le_of_ble_eq_true rfl) (Nat.le_add_left 3 _)) (Nat.le_trans (Nat.le_of_ble_eq_true rfl) (Nat.le_add_left 70 _)) (Nat.zero_le _) (Nat.zero_le _) dX4_tryPlays_179 ?_
              refine lv_istore (lv' := [(7, .int (mn v7 (mn v8 ((fX4_gainOf q13.1) + q14.1)))), (8, .int (mn v8 ((fX4_gainOf q13.1) + q14.1))), (12, .int ((fX4_gainOf q13.1) + q14.1)), (11, .int (fX4_gainOf q13.1)), (5, .int (v5 &&& ((sl 1 (fX0_highest v5)) ^^^ ((-1))))), (10, .int (fX0_highest v5)), (0, .ref (ad 6)), (1, .int v1), (4, .int v4), (6, .int v6), (9, .int v9)]) hx hb dX4_tryPlays_182 hl (by decide) rfl (fun ls hl => ?_)
              refine lv_iinc (v := v9 + 1) (lv' := [(9, .int (v9 + 1)), (7, .int (mn v7 (mn v8 ((fX4_gainOf q13.1) + q14.1)))), (8, .int (mn v8 ((fX4_gainOf q13.1) + q14.1))), (12, .int ((fX4_gainOf q13.1) + q14.1)), (11, .int (fX4_gainOf q13.1)), (5, .int (v5 &&& ((sl 1 (fX0_highest v5)) ^^^ ((-1))))), (10, .int (fX0_highest v5)), (0, .ref (ad 6)), (1, .int v1), (4, .int v4), (6, .int v6)]) hx hb dX4_tryPlays_184 hl (k := 10) rfl rfl (by decide) rfl (fun ls hl => ?_)
              refine lv_goto (tgt := 60) hx hb dX4_tryPlays_187 (by decide) ?_
              exact ih _ _ _ _ _ _ _ _ _ _ _ _ h hP hS (lv_sub hl [7, 8, 9, 5, 10, 1, 2, 0] rfl) kk
            · rw [if_neg c15] at h
              refine lv_iload hx hb dX4_tryPlays_145 (lv_at hl 9 rfl) ?_
              refine lv_iload hx hb dX4_tryPlays_147 (lv_at hl 0 rfl) ?_
              refine r_max S5 hl.1 (List.mem_of_getElem? (i := 2) rfl) (List.mem_of_getElem? (i := 3) rfl) (List.mem_of_getElem? (i := 4) rfl) (List.mem_of_getElem? (i := 5) rfl) (Nat.le_trans (Nat.le_of_ble_eq_true rfl) (Nat.le_add_left 3 _)) (Nat.le_trans (Nat.le_of_ble_eq_true rfl) (Nat.le_add_left 70 _)) (Nat.zero_le _) (Nat.zero_le _) dX4_tryPlays_149 ?_
              refine lv_istore (lv' := [(8, .int (mx v8 ((fX4_gainOf q13.1) + q14.1))), (12, .int ((fX4_gainOf q13.1) + q14.1)), (11, .int (fX4_gainOf q13.1)), (5, .int (v5 &&& ((sl 1 (fX0_highest v5)) ^^^ ((-1))))), (10, .int (fX0_highest v5)), (0, .ref (ad 6)), (1, .int v1), (4, .int v4), (6, .int v6), (7, .int v7), (9, .int v9)]) hx hb dX4_tryPlays_152 hl (by decide) rfl (fun ls hl => ?_)
              refine lv_iload hx hb dX4_tryPlays_154 (lv_at hl 8 rfl) ?_
              refine lv_iload hx hb dX4_tryPlays_156 (lv_at hl 0 rfl) ?_
              refine r_max S5 hl.1 (List.mem_of_getElem? (i := 2) rfl) (List.mem_of_getElem? (i := 3) rfl) (List.mem_of_getElem? (i := 4) rfl) (List.mem_of_getElem? (i := 5) rfl) (Nat.le_trans (Nat.le_of_ble_eq_true rfl) (Nat.le_add_left 3 _)) (Nat.le_trans (Nat.le_of_ble_eq_true rfl) (Nat.le_add_left 70 _)) (Nat.zero_le _) (Nat.zero_le _) dX4_tryPlays_158 ?_
              refine lv_istore (lv' := [(6, .int (mx v6 (mx v8 ((fX4_gainOf q13.1) + q14.1)))), (8, .int (mx v8 ((fX4_gainOf q13.1) + q14.1))), (12, .int ((fX4_gainOf q13.1) + q14.1)), (11, .int (fX4_gainOf q13.1)), (5, .int (v5 &&& ((sl 1 (fX0_highest v5)) ^^^ ((-1))))), (10, .int (fX0_highest v5)), (0, .ref (ad 6)), (1, .int v1), (4, .int v4), (7, .int v7), (9, .int v9)]) hx hb dX4_tryPlays_161 hl (by decide) rfl (fun ls hl => ?_)
              refine lv_goto (tgt := 184) hx hb dX4_tryPlays_163 (by decide) ?_
              refine lv_iinc (v := v9 + 1) (lv' := [(9, .int (v9 + 1)), (6, .int (mx v6 (mx v8 ((fX4_gainOf q13.1) + q14.1)))), (8, .int (mx v8 ((fX4_gainOf q13.1) + q14.1))), (12, .int ((fX4_gainOf q13.1) + q14.1)), (11, .int (fX4_gainOf q13.1)), (5, .int (v5 &&& ((sl 1 (fX0_highest v5)) ^^^ ((-1))))), (10, .int (fX0_highest v5)), (0, .ref (ad 6)), (1, .int v1), (4, .int v4), (7, .int v7)]) hx hb dX4_tryPlays_184 hl (k := 10) rfl rfl (by decide) rfl (fun ls hl => ?_)
              refine lv_goto (tgt := 60) hx hb dX4_tryPlays_187 (by decide) ?_
              exact ih _ _ _ _ _ _ _ _ _ _ _ _ h hP hS (lv_sub hl [7, 8, 9, 5, 1, 10, 2, 0] rfl) kk
  refine lv_aload_n hx hb dX4_tryPlays_0 rfl (lv_at hl 0 rfl) ?_
  refine gX4_game S5 hin hK hP (List.mem_of_getElem? (i := 1) rfl) dX4_tryPlays_1 ?_
  refine cVX S5 hK hP 0 rfl rfl (As := []) (kX1_mover l D cA ad _) (cwV 0 hts gX4_tryPlays_X1_mover rfl rfl rfl (by decide +kernel) ⟨(Nat.le_trans (Nat.le_of_ble_eq_true rfl) (Nat.le_add_left 3 _)), (Nat.le_trans (Nat.le_of_ble_eq_true rfl) (Nat.le_add_left 70 _))⟩) rfl hl.1 (st0 := _) (rest := []) rfl (Nat.le_of_ble_eq_true rfl) dX4_tryPlays_4 ⟨Nat.zero_le _, Nat.zero_le _⟩ ?_
  refine cS S5 (As := [.int (fX1_mover M)]) (kX0_sideOf l _) (va_cwS 1 hts gX4_tryPlays_X0_sideOf rfl rfl rfl (by decide +kernel) ⟨(Nat.le_trans (Nat.le_of_ble_eq_true rfl) (Nat.le_add_left 3 _)), (Nat.le_trans (Nat.le_of_ble_eq_true rfl) (Nat.le_add_left 70 _))⟩) rfl hl.1 (st0 := _) (rest := []) rfl (Nat.le_of_ble_eq_true rfl) dX4_tryPlays_7 ⟨Nat.zero_le _, Nat.zero_le _⟩ ?_
  refine lv_if_ne (tgt := 17) hx hb dX4_tryPlays_10 (by decide) (fun c1 => ?_) (fun c1 => ?_)
  · rw [if_neg c1] at h
    refine lv_iconst (v := 0) hx hb dX4_tryPlays_17 (by decide) ?_
    refine lv_istore (lv' := [(4, .int 0), (0, .ref (ad 6)), (1, .int p1), (2, .int p2), (3, .int p3)]) hx hb dX4_tryPlays_18 hl (by decide) rfl (fun ls hl => ?_)
    refine lv_aload_n hx hb dX4_tryPlays_20 rfl (lv_at hl 1 rfl) ?_
    refine gX4_game S5 hin hK hP (List.mem_of_getElem? (i := 1) rfl) dX4_tryPlays_21 ?_
    refine cVX S5 hK hP 0 rfl rfl (As := []) (kX1_playable l D cA ad _) (cwV 0 hts gX4_tryPlays_X1_playable rfl rfl rfl (by decide +kernel) ⟨(Nat.le_trans (Nat.le_of_ble_eq_true rfl) (Nat.le_add_left 3 _)), (Nat.le_trans (Nat.le_of_ble_eq_true rfl) (Nat.le_add_left 70 _))⟩) rfl hl.1 (st0 := _) (rest := []) rfl (Nat.le_of_ble_eq_true rfl) dX4_tryPlays_24 ⟨Nat.zero_le _, Nat.zero_le _⟩ ?_
    refine lv_aload_n hx hb dX4_tryPlays_27 rfl (lv_at hl 1 rfl) ?_
    refine gX4_game S5 hin hK hP (List.mem_of_getElem? (i := 1) rfl) dX4_tryPlays_28 ?_
    obtain ⟨q2, hqq2, h⟩ := obind_some h
    refine cVX S5 hK hP 0 rfl rfl (As := []) (kX1_out l D cA ad _ _ hqq2) (cwV 0 hts gX4_tryPlays_X1_out rfl rfl rfl (by decide +kernel) ⟨(Nat.le_trans (Nat.le_of_ble_eq_true rfl) (Nat.le_add_left 3 _)), (Nat.le_trans (Nat.le_of_ble_eq_true rfl) (Nat.le_add_left 70 _))⟩) rfl hl.1 (st0 := _) (rest := [.int (fX1_playable M)]) rfl (Nat.le_of_ble_eq_true rfl) dX4_tryPlays_31 ⟨Nat.zero_le _, Nat.zero_le _⟩ ?_
    obtain ⟨q3, hqq3, h⟩ := obind_some h
    refine cS S5 (As := [.int (fX1_playable M), .int q2]) (kX0_lowestOfEquals l _ _ _ hqq3) (va_cwS 2 hts gX4_tryPlays_X0_lowestOfEquals rfl rfl rfl (by decide +kernel) ⟨(Nat.le_trans (Nat.le_of_ble_eq_true rfl) (Nat.le_add_left 3 _)), (Nat.le_trans (Nat.le_of_ble_eq_true rfl) (Nat.le_add_left 70 _))⟩) rfl hl.1 (st0 := _) (rest := []) rfl (Nat.le_of_ble_eq_true rfl) dX4_tryPlays_34 ⟨Nat.zero_le _, Nat.zero_le _⟩ ?_
    refine lv_istore (lv' := [(5, .int q3), (4, .int 0), (0, .ref (ad 6)), (1, .int p1), (2, .int p2), (3, .int p3)]) hx hb dX4_tryPlays_37 hl (by decide) rfl (fun ls hl => ?_)
    refine lv_iload_n hx hb dX4_tryPlays_39 rfl (lv_at hl 4 rfl) ?_
    refine lv_istore (lv' := [(6, .int p2), (5, .int q3), (4, .int 0), (0, .ref (ad 6)), (1, .int p1), (2, .int p2), (3, .int p3)]) hx hb dX4_tryPlays_40 hl (by decide) rfl (fun ls hl => ?_)
    refine lv_iload_n hx hb dX4_tryPlays_42 rfl (lv_at hl 6 rfl) ?_
    refine lv_istore (lv' := [(7, .int p3), (6, .int p2), (5, .int q3), (4, .int 0), (0, .ref (ad 6)), (1, .int p1), (2, .int p2), (3, .int p3)]) hx hb dX4_tryPlays_43 hl (by decide) rfl (fun ls hl => ?_)
    refine lv_iload hx hb dX4_tryPlays_45 (lv_at hl 3 rfl) ?_
    refine lv_if_eq (tgt := 54) hx hb dX4_tryPlays_47 (by decide) (fun c4 => ?_) (fun c4 => absurd c4 (by decide))
    refine lv_iconst (v := 5) hx hb dX4_tryPlays_54 (by decide) ?_
    refine lv_istore (lv' := [(8, .int 5), (7, .int p3), (6, .int p2), (5, .int q3), (4, .int 0), (0, .ref (ad 6)), (1, .int p1), (2, .int p2), (3, .int p3)]) hx hb dX4_tryPlays_55 hl (by decide) rfl (fun ls hl => ?_)
    refine lv_iconst (v := 0) hx hb dX4_tryPlays_57 (by decide) ?_
    refine lv_istore (lv' := [(9, .int 0), (8, .int 5), (7, .int p3), (6, .int p2), (5, .int q3), (4, .int 0), (0, .ref (ad 6)), (1, .int p1), (2, .int p2), (3, .int p3)]) hx hb dX4_tryPlays_58 hl (by decide) rfl (fun ls hl => ?_)
    obtain ⟨q5, hqq5, h⟩ := obind_some h
    refine L60 _ _ _ _ _ _ _ _ _ _ _ _ _ hqq5 hP hS (lv_sub hl [6, 7, 5, 4, 3, 2, 1, 0] rfl) (fun H locs hP hS ls hl => ?_)
    have hl := lv_sub (l' := [(8, .int q5.1)]) hl [3] rfl
    refine lv_iload hx hb dX4_tryPlays_190 (lv_at hl 0 rfl) ?_
    obtain rfl := Option.some.inj h
    exact kr _ _ _ _ _ rfl rfl hP hS dX4_tryPlays_192
  · rw [if_pos c1] at h
    refine lv_iconst (v := 1) hx hb dX4_tryPlays_13 (by decide) ?_
    refine lv_goto (tgt := 18) hx hb dX4_tryPlays_14 (by decide) ?_
    refine lv_istore (lv' := [(4, .int 1), (0, .ref (ad 6)), (1, .int p1), (2, .int p2), (3, .int p3)]) hx hb dX4_tryPlays_18 hl (by decide) rfl (fun ls hl => ?_)
    refine lv_aload_n hx hb dX4_tryPlays_20 rfl (lv_at hl 1 rfl) ?_
    refine gX4_game S5 hin hK hP (List.mem_of_getElem? (i := 1) rfl) dX4_tryPlays_21 ?_
    refine cVX S5 hK hP 0 rfl rfl (As := []) (kX1_playable l D cA ad _) (cwV 0 hts gX4_tryPlays_X1_playable rfl rfl rfl (by decide +kernel) ⟨(Nat.le_trans (Nat.le_of_ble_eq_true rfl) (Nat.le_add_left 3 _)), (Nat.le_trans (Nat.le_of_ble_eq_true rfl) (Nat.le_add_left 70 _))⟩) rfl hl.1 (st0 := _) (rest := []) rfl (Nat.le_of_ble_eq_true rfl) dX4_tryPlays_24 ⟨Nat.zero_le _, Nat.zero_le _⟩ ?_
    refine lv_aload_n hx hb dX4_tryPlays_27 rfl (lv_at hl 1 rfl) ?_
    refine gX4_game S5 hin hK hP (List.mem_of_getElem? (i := 1) rfl) dX4_tryPlays_28 ?_
    obtain ⟨q6, hqq6, h⟩ := obind_some h
    refine cVX S5 hK hP 0 rfl rfl (As := []) (kX1_out l D cA ad _ _ hqq6) (cwV 0 hts gX4_tryPlays_X1_out rfl rfl rfl (by decide +kernel) ⟨(Nat.le_trans (Nat.le_of_ble_eq_true rfl) (Nat.le_add_left 3 _)), (Nat.le_trans (Nat.le_of_ble_eq_true rfl) (Nat.le_add_left 70 _))⟩) rfl hl.1 (st0 := _) (rest := [.int (fX1_playable M)]) rfl (Nat.le_of_ble_eq_true rfl) dX4_tryPlays_31 ⟨Nat.zero_le _, Nat.zero_le _⟩ ?_
    obtain ⟨q7, hqq7, h⟩ := obind_some h
    refine cS S5 (As := [.int (fX1_playable M), .int q6]) (kX0_lowestOfEquals l _ _ _ hqq7) (va_cwS 2 hts gX4_tryPlays_X0_lowestOfEquals rfl rfl rfl (by decide +kernel) ⟨(Nat.le_trans (Nat.le_of_ble_eq_true rfl) (Nat.le_add_left 3 _)), (Nat.le_trans (Nat.le_of_ble_eq_true rfl) (Nat.le_add_left 70 _))⟩) rfl hl.1 (st0 := _) (rest := []) rfl (Nat.le_of_ble_eq_true rfl) dX4_tryPlays_34 ⟨Nat.zero_le _, Nat.zero_le _⟩ ?_
    refine lv_istore (lv' := [(5, .int q7), (4, .int 1), (0, .ref (ad 6)), (1, .int p1), (2, .int p2), (3, .int p3)]) hx hb dX4_tryPlays_37 hl (by decide) rfl (fun ls hl => ?_)
    refine lv_iload_n hx hb dX4_tryPlays_39 rfl (lv_at hl 4 rfl) ?_
    refine lv_istore (lv' := [(6, .int p2), (5, .int q7), (4, .int 1), (0, .ref (ad 6)), (1, .int p1), (2, .int p2), (3, .int p3)]) hx hb dX4_tryPlays_40 hl (by decide) rfl (fun ls hl => ?_)
    refine lv_iload_n hx hb dX4_tryPlays_42 rfl (lv_at hl 6 rfl) ?_
    refine lv_istore (lv' := [(7, .int p3), (6, .int p2), (5, .int q7), (4, .int 1), (0, .ref (ad 6)), (1, .int p1), (2, .int p2), (3, .int p3)]) hx hb dX4_tryPlays_43 hl (by decide) rfl (fun ls hl => ?_)
    refine lv_iload hx hb dX4_tryPlays_45 (lv_at hl 3 rfl) ?_
    refine lv_if_eq (tgt := 54) hx hb dX4_tryPlays_47 (by decide) (fun c8 => absurd c8 (by decide)) (fun c8 => ?_)
    refine lv_iconst (v := (-1)) hx hb dX4_tryPlays_50 (by decide) ?_
    refine lv_goto (tgt := 55) hx hb dX4_tryPlays_51 (by decide) ?_
    refine lv_istore (lv' := [(8, .int ((-1))), (7, .int p3), (6, .int p2), (5, .int q7), (4, .int 1), (0, .ref (ad 6)), (1, .int p1), (2, .int p2), (3, .int p3)]) hx hb dX4_tryPlays_55 hl (by decide) rfl (fun ls hl => ?_)
    refine lv_iconst (v := 0) hx hb dX4_tryPlays_57 (by decide) ?_
    refine lv_istore (lv' := [(9, .int 0), (8, .int ((-1))), (7, .int p3), (6, .int p2), (5, .int q7), (4, .int 1), (0, .ref (ad 6)), (1, .int p1), (2, .int p2), (3, .int p3)]) hx hb dX4_tryPlays_58 hl (by decide) rfl (fun ls hl => ?_)
    obtain ⟨q9, hqq9, h⟩ := obind_some h
    refine L60 _ _ _ _ _ _ _ _ _ _ _ _ _ hqq9 hP hS (lv_sub hl [6, 7, 5, 4, 3, 2, 1, 0] rfl) (fun H locs hP hS ls hl => ?_)
    have hl := lv_sub (l' := [(8, .int q9.1)]) hl [3] rfl
    refine lv_iload hx hb dX4_tryPlays_190 (lv_at hl 0 rfl) ?_
    obtain rfl := Option.some.inj h
    exact kr _ _ _ _ _ rfl rfl hP hS dX4_tryPlays_192

-- X4_byAllPlays
def fX4_byAllPlays_L41 (S : Int32 → Mem → Option (Int32 × Mem)) : Nat → Int32 → Int32 → Int32 → Int32 → Int32 → Mem → Option (Int32 × Mem)
  | 0, _, _, _, _, _, _ => none
  | n + 1, v1, v2, v3, v4, v5, M => (if 4 ≤ v5 then some (v4, M) else (if v3 = 0 then some (v4, M) else (obind (fX1_lay (fX0_lowest v3) M) (fun q9 => (obind (S (v1 - 1) q9.2) (fun q10 => (if v2 = 0 then fX4_byAllPlays_L41 S n v1 v2 (v3 &&& ((sl 1 (fX0_lowest v3)) ^^^ ((-1)))) (mn v4 ((fX4_gainOf q9.1) + q10.1)) (v5 + 1) ((fX1_lift q10.2).2) else fX4_byAllPlays_L41 S n v1 v2 (v3 &&& ((sl 1 (fX0_lowest v3)) ^^^ ((-1)))) (mx v4 ((fX4_gainOf q9.1) + q10.1)) (v5 + 1) ((fX1_lift q10.2).2))))))))
def fX4_byAllPlays (S : Int32 → Mem → Option (Int32 × Mem)) (p1 : Int32) (M : Mem) : Option (Int32 × Mem) := (if 0 < p1 then (if (fX0_sideOf (fX1_mover M)) = 0 then (obind (fX4_byAllPlays_L41 S 40 p1 1 (fX1_playable M) ((-1)) 0 M) (fun q6 => some (q6.1, q6.2))) else (obind (fX4_byAllPlays_L41 S 40 p1 0 (fX1_playable M) 5 0 M) (fun q4 => some (q4.1, q4.2)))) else some (0, M))
def rmX4_byAllPlays (rv : Room) : Room := { frames := rv.frames + 3, cells := 0, slots := 0, locals := rv.locals + 68 }
set_option maxHeartbeats 4000000 in
set_option maxRecDepth 100000 in
theorem kX4_byAllPlays (l : Launch) (D : va_G) (cA : Nat) (ad : Nat → Nat) (S : Int32 → Mem → Option (Int32 × Mem)) (rv : Room) (hrv : rv.cells = 0 ∧ rv.slots = 0) (hyS : ∀ (a : Int32) (M : Mem) (r : Int32 × Mem), S a M = some r → WiX l yX4_byAllPlays wsX4_byAllPlays rv D cA ad M [.ref (ad 0), .int a] r) (p1 : Int32) (M : Mem) (r : Int32 × Mem) (h : fX4_byAllPlays S p1 M = some r) : WiX l yX4_byAllPlays wsX4_byAllPlays (rmX4_byAllPlays rv) D cA ad M [.ref (ad 0), .int p1] r := by
  unfold fX4_byAllPlays at h
  refine WiX.of RX4 rfl rfl rfl (Nat.le_of_ble_eq_true rfl) ?_
  intro p e s m args below meth c Q ls A eA S5 hK hP hD hS hl kr
  have hA : ∀ (H : Heap) (q : Nat), s.heap.size ≤ H.size → AX ad H.size q → A q := fun H q hz h => by rw [eA]; exact AX.mono hz h
  obtain ⟨hx, hb, -, -, hts⟩ := id S5
  have L41 : ∀ (n : Nat) (v1 : Int32) (v2 : Int32) (v3 : Int32) (v4 : Int32) (v5 : Int32) (M : Mem) (r' : Int32 × Mem) (H : Heap) (locs : List Loc) (ls : Array Slot), fX4_byAllPlays_L41 S n v1 v2 v3 v4 v5 M = some r' → va_P D vwCl (wX cA ad M) H → va_S A s.heap H locs → lv_has ls 8 [(0, .ref (ad 0)), (1, .int v1), (2, .int v2), (3, .int v3), (4, .int v4), (5, .int v5)] → (∀ (H : Heap) (locs : List Loc), va_P D vwCl (wX cA ad (r'.2)) H → va_S A s.heap H locs → ∀ (ls : Array Slot), lv_has ls 8 [(0, .ref (ad 0)), (1, .int v1), (2, .int v2), (4, .int (r'.1))] → W p l e (rmX4_byAllPlays rv) s m args below meth c H locs 0 0 Q (F0 m 119 ls [])) → W p l e (rmX4_byAllPlays rv) s m args below meth c H locs 0 0 Q (F0 m 41 ls []) := by
    intro n
    induction n with
    | zero => intro v1 v2 v3 v4 v5 M r' H locs ls h hP hS hl kk; rw [fX4_byAllPlays_L41.eq_1] at h; cases h
    | succ n ih =>
      intro v1 v2 v3 v4 v5 M r' H locs ls h hP hS hl kk
      rw [fX4_byAllPlays_L41.eq_2] at h
      refine lv_iload hx hb dX4_byAllPlays_41 (lv_at hl 5 rfl) ?_
      refine lv_iconst (v := 4) hx hb dX4_byAllPlays_43 (by decide) ?_
      refine lv_icmp_ge (tgt := 119) hx hb dX4_byAllPlays_44 (by decide) (fun c7 => ?_) (fun c7 => ?_)
      · rw [if_pos c7] at h
        obtain rfl := Option.some.inj h
        exact kk _ _ hP hS _ (lv_sub hl [0, 1, 2, 4] rfl)
      · rw [if_neg c7] at h
        refine lv_iload_n hx hb dX4_byAllPlays_47 rfl (lv_at hl 3 rfl) ?_
        refine lv_if_eq (tgt := 119) hx hb dX4_byAllPlays_48 (by decide) (fun c8 => ?_) (fun c8 => ?_)
        · rw [if_pos c8] at h
          obtain rfl := Option.some.inj h
          exact kk _ _ hP hS _ (lv_sub hl [0, 1, 2, 4] rfl)
        · rw [if_neg c8] at h
          refine lv_iload_n hx hb dX4_byAllPlays_51 rfl (lv_at hl 3 rfl) ?_
          refine cS S5 (As := [.int v3]) (kX0_lowest l _) (va_cwS 1 hts gX4_byAllPlays_X0_lowest rfl rfl rfl (by decide +kernel) ⟨(Nat.le_trans (Nat.le_of_ble_eq_true rfl) (Nat.le_add_left 3 _)), (Nat.le_trans (Nat.le_of_ble_eq_true rfl) (Nat.le_add_left 68 _))⟩) rfl hl.1 (st0 := _) (rest := []) rfl (Nat.le_of_ble_eq_true rfl) dX4_byAllPlays_52 ⟨Nat.zero_le _, Nat.zero_le _⟩ ?_
          refine lv_istore (lv' := [(6, .int (fX0_lowest v3)), (0, .ref (ad 0)), (1, .int v1), (2, .int v2), (3, .int v3), (4, .int v4), (5, .int v5)]) hx hb dX4_byAllPlays_55 hl (by decide) rfl (fun ls hl => ?_)
          refine lv_iload_n hx hb dX4_byAllPlays_57 rfl (lv_at hl 4 rfl) ?_
          refine lv_iconst (v := 1) hx hb dX4_byAllPlays_58 (by decide) ?_
          refine lv_iload hx hb dX4_byAllPlays_59 (lv_at hl 0 rfl) ?_
          refine r_ishl S5 dX4_byAllPlays_61 ?_
          refine lv_iconst (v := (-1)) hx hb dX4_byAllPlays_62 (by decide) ?_
          refine lv_ixor hx hb dX4_byAllPlays_63 ?_
          refine lv_iand hx hb dX4_byAllPlays_64 ?_
          refine lv_istore_n (lv' := [(3, .int (v3 &&& ((sl 1 (fX0_lowest v3)) ^^^ ((-1))))), (6, .int (fX0_lowest v3)), (0, .ref (ad 0)), (1, .int v1), (2, .int v2), (4, .int v4), (5, .int v5)]) hx hb dX4_byAllPlays_65 rfl hl (by decide) rfl (fun ls hl => ?_)
          refine lv_aload_n hx hb dX4_byAllPlays_66 rfl (lv_at hl 2 rfl) ?_
          refine lv_iload hx hb dX4_byAllPlays_67 (lv_at hl 1 rfl) ?_
          obtain ⟨q9, hqq9, h⟩ := obind_some h
          refine cWiX S5 hK hP hD hS (fun _ h => hA _ _ hS.1 h) 0 rfl rfl (As := [.int (fX0_lowest v3)]) (kX1_lay l D cA ad _ _ _ hqq9) (cwV 1 hts gX4_byAllPlays_X1_lay rfl rfl rfl (by decide +kernel) ⟨(Nat.le_trans (Nat.le_of_ble_eq_true rfl) (Nat.le_add_left 3 _)), (Nat.le_trans (Nat.le_of_ble_eq_true rfl) (Nat.le_add_left 68 _))⟩) rfl hl.1 (st0 := _) (rest := []) rfl (Nat.le_of_ble_eq_true rfl) dX4_byAllPlays_69 ⟨Nat.zero_le _, Nat.zero_le _⟩ (fun H locs hz hP hS => ?_)
          refine cS S5 (As := [.int q9.1]) (kX4_gainOf l _) (va_cwS 1 hts gX4_byAllPlays_X4_gainOf rfl rfl rfl (by decide +kernel) ⟨(Nat.le_trans (Nat.le_of_ble_eq_true rfl) (Nat.le_add_left 3 _)), (Nat.le_trans (Nat.le_of_ble_eq_true rfl) (Nat.le_add_left 68 _))⟩) rfl hl.1 (st0 := _) (rest := []) rfl (Nat.le_of_ble_eq_true rfl) dX4_byAllPlays_72 ⟨Nat.zero_le _, Nat.zero_le _⟩ ?_
          refine lv_aload_n hx hb dX4_byAllPlays_75 rfl (lv_at hl 2 rfl) ?_
          refine lv_iload_n hx hb dX4_byAllPlays_76 rfl (lv_at hl 3 rfl) ?_
          refine lv_iconst (v := 1) hx hb dX4_byAllPlays_77 (by decide) ?_
          refine lv_isub hx hb dX4_byAllPlays_78 ?_
          obtain ⟨q10, hqq10, h⟩ := obind_some h
          refine cWsX S5 hK hP hD hS (fun _ h => hA _ _ hS.1 h) (As := [.ref (ad 0), .int (v1 - 1)]) (hyS _ _ _ hqq10) (va_cwS 2 hts gX4_byAllPlays_X4_byAllPlays rfl hrv.1 hrv.2 (by decide +kernel) ⟨(by show rv.frames + 1 ≤ rv.frames + 3; omega), (by show 8 + (8 + 11) + rv.locals ≤ rv.locals + 68; omega)⟩) rfl hl.1 (st0 := _) (rest := [.int (fX4_gainOf q9.1)]) rfl (Nat.le_of_ble_eq_true rfl) dX4_byAllPlays_79 ⟨Nat.zero_le _, Nat.zero_le _⟩ (fun H locs hz hP hS => ?_)
          refine lv_iadd hx hb dX4_byAllPlays_82 ?_
          refine lv_istore (lv' := [(7, .int ((fX4_gainOf q9.1) + q10.1)), (3, .int (v3 &&& ((sl 1 (fX0_lowest v3)) ^^^ ((-1))))), (6, .int (fX0_lowest v3)), (0, .ref (ad 0)), (1, .int v1), (2, .int v2), (4, .int v4), (5, .int v5)]) hx hb dX4_byAllPlays_83 hl (by decide) rfl (fun ls hl => ?_)
          refine lv_aload_n hx hb dX4_byAllPlays_85 rfl (lv_at hl 3 rfl) ?_
          refine cWiX S5 hK hP hD hS (fun _ h => hA _ _ hS.1 h) 0 rfl rfl (As := []) (kX1_lift l D cA ad _) (cwV 0 hts gX4_byAllPlays_X1_lift rfl rfl rfl (by decide +kernel) ⟨(Nat.le_trans (Nat.le_of_ble_eq_true rfl) (Nat.le_add_left 3 _)), (Nat.le_trans (Nat.le_of_ble_eq_true rfl) (Nat.le_add_left 68 _))⟩) rfl hl.1 (st0 := _) (rest := []) rfl (Nat.le_of_ble_eq_true rfl) dX4_byAllPlays_86 ⟨Nat.zero_le _, Nat.zero_le _⟩ (fun H locs hz hP hS => ?_)
          refine lv_pop hx hb dX4_byAllPlays_89 rfl ?_
          refine lv_iload_n hx hb dX4_byAllPlays_90 rfl (lv_at hl 5 rfl) ?_
          refine lv_if_eq (tgt := 104) hx hb dX4_byAllPlays_91 (by decide) (fun c11 => ?_) (fun c11 => ?_)
          · rw [if_pos c11] at h
            refine lv_iload hx hb dX4_byAllPlays_104 (lv_at hl 6 rfl) ?_
            refine lv_iload hx hb dX4_byAllPlays_106 (lv_at hl 0 rfl) ?_
            refine r_min S5 hl.1 (List.mem_of_getElem? (i := 5) rfl) (List.mem_of_getElem? (i := 6) rfl) (List.mem_of_getElem? (i := 3) rfl) (List.mem_of_getElem? (i := 7) rfl) (Nat.le_trans (Nat.le_of_ble_eq_true rfl) (Nat.le_add_left 3 _)) (Nat.le_trans (Nat.le_of_ble_eq_true rfl) (Nat.le_add_left 68 _)) (Nat.zero_le _) (Nat.zero_le _) dX4_byAllPlays_108 ?_
            refine lv_istore (lv' := [(4, .int (mn v4 ((fX4_gainOf q9.1) + q10.1))), (7, .int ((fX4_gainOf q9.1) + q10.1)), (3, .int (v3 &&& ((sl 1 (fX0_lowest v3)) ^^^ ((-1))))), (6, .int (fX0_lowest v3)), (0, .ref (ad 0)), (1, .int v1), (2, .int v2), (5, .int v5)]) hx hb dX4_byAllPlays_111 hl (by decide) rfl (fun ls hl => ?_)
            refine lv_iinc (v := v5 + 1) (lv' := [(5, .int (v5 + 1)), (4, .int (mn v4 ((fX4_gainOf q9.1) + q10.1))), (7, .int ((fX4_gainOf q9.1) + q10.1)), (3, .int (v3 &&& ((sl 1 (fX0_lowest v3)) ^^^ ((-1))))), (6, .int (fX0_lowest v3)), (0, .ref (ad 0)), (1, .int v1), (2, .int v2)]) hx hb dX4_byAllPlays_113 hl (k := 7) rfl rfl (by decide) rfl (fun ls hl => ?_)
            refine lv_goto (tgt := 41) hx hb dX4_byAllPlays_116 (by decide) ?_
            exact ih _ _ _ _ _ _ _ _ _ _ h hP hS (lv_sub hl [5, 6, 7, 3, 1, 0] rfl) kk
          · rw [if_neg c11] at h
            refine lv_iload hx hb dX4_byAllPlays_94 (lv_at hl 6 rfl) ?_
            refine lv_iload hx hb dX4_byAllPlays_96 (lv_at hl 0 rfl) ?_
            refine r_max S5 hl.1 (List.mem_of_getElem? (i := 1) rfl) (List.mem_of_getElem? (i := 2) rfl) (List.mem_of_getElem? (i := 3) rfl) (List.mem_of_getElem? (i := 4) rfl) (Nat.le_trans (Nat.le_of_ble_eq_true rfl) (Nat.le_add_left 3 _)) (Nat.le_trans (Nat.le_of_ble_eq_true rfl) (Nat.le_add_left 68 _)) (Nat.zero_le _) (Nat.zero_le _) dX4_byAllPlays_98 ?_
            refine lv_goto (tgt := 111) hx hb dX4_byAllPlays_101 (by decide) ?_
            refine lv_istore (lv' := [(4, .int (mx v4 ((fX4_gainOf q9.1) + q10.1))), (7, .int ((fX4_gainOf q9.1) + q10.1)), (3, .int (v3 &&& ((sl 1 (fX0_lowest v3)) ^^^ ((-1))))), (6, .int (fX0_lowest v3)), (0, .ref (ad 0)), (1, .int v1), (2, .int v2), (5, .int v5)]) hx hb dX4_byAllPlays_111 hl (by decide) rfl (fun ls hl => ?_)
            refine lv_iinc (v := v5 + 1) (lv' := [(5, .int (v5 + 1)), (4, .int (mx v4 ((fX4_gainOf q9.1) + q10.1))), (7, .int ((fX4_gainOf q9.1) + q10.1)), (3, .int (v3 &&& ((sl 1 (fX0_lowest v3)) ^^^ ((-1))))), (6, .int (fX0_lowest v3)), (0, .ref (ad 0)), (1, .int v1), (2, .int v2)]) hx hb dX4_byAllPlays_113 hl (k := 7) rfl rfl (by decide) rfl (fun ls hl => ?_)
            refine lv_goto (tgt := 41) hx hb dX4_byAllPlays_116 (by decide) ?_
            exact ih _ _ _ _ _ _ _ _ _ _ h hP hS (lv_sub hl [5, 6, 7, 3, 1, 0] rfl) kk
  refine lv_iload_n hx hb dX4_byAllPlays_0 rfl (lv_at hl 1 rfl) ?_
  refine lv_if_gt (tgt := 6) hx hb dX4_byAllPlays_1 (by decide) (fun c1 => ?_) (fun c1 => ?_)
  · rw [if_pos c1] at h
    refine lv_aload_n hx hb dX4_byAllPlays_6 rfl (lv_at hl 0 rfl) ?_
    refine cVX S5 hK hP 0 rfl rfl (As := []) (kX1_mover l D cA ad _) (cwV 0 hts gX4_byAllPlays_X1_mover rfl rfl rfl (by decide +kernel) ⟨(Nat.le_trans (Nat.le_of_ble_eq_true rfl) (Nat.le_add_left 3 _)), (Nat.le_trans (Nat.le_of_ble_eq_true rfl) (Nat.le_add_left 68 _))⟩) rfl hl.1 (st0 := _) (rest := []) rfl (Nat.le_of_ble_eq_true rfl) dX4_byAllPlays_7 ⟨Nat.zero_le _, Nat.zero_le _⟩ ?_
    refine cS S5 (As := [.int (fX1_mover M)]) (kX0_sideOf l _) (va_cwS 1 hts gX4_byAllPlays_X0_sideOf rfl rfl rfl (by decide +kernel) ⟨(Nat.le_trans (Nat.le_of_ble_eq_true rfl) (Nat.le_add_left 3 _)), (Nat.le_trans (Nat.le_of_ble_eq_true rfl) (Nat.le_add_left 68 _))⟩) rfl hl.1 (st0 := _) (rest := []) rfl (Nat.le_of_ble_eq_true rfl) dX4_byAllPlays_10 ⟨Nat.zero_le _, Nat.zero_le _⟩ ?_
    refine lv_if_ne (tgt := 20) hx hb dX4_byAllPlays_13 (by decide) (fun c2 => ?_) (fun c2 => ?_)
    · rw [if_neg c2] at h
      refine lv_iconst (v := 0) hx hb dX4_byAllPlays_20 (by decide) ?_
      refine lv_istore_n (lv' := [(2, .int 0), (0, .ref (ad 0)), (1, .int p1)]) hx hb dX4_byAllPlays_21 rfl hl (by decide) rfl (fun ls hl => ?_)
      refine lv_aload_n hx hb dX4_byAllPlays_22 rfl (lv_at hl 1 rfl) ?_
      refine cVX S5 hK hP 0 rfl rfl (As := []) (kX1_playable l D cA ad _) (cwV 0 hts gX4_byAllPlays_X1_playable rfl rfl rfl (by decide +kernel) ⟨(Nat.le_trans (Nat.le_of_ble_eq_true rfl) (Nat.le_add_left 3 _)), (Nat.le_trans (Nat.le_of_ble_eq_true rfl) (Nat.le_add_left 68 _))⟩) rfl hl.1 (st0 := _) (rest := []) rfl (Nat.le_of_ble_eq_true rfl) dX4_byAllPlays_23 ⟨Nat.zero_le _, Nat.zero_le _⟩ ?_
      refine lv_istore_n (lv' := [(3, .int (fX1_playable M)), (2, .int 0), (0, .ref (ad 0)), (1, .int p1)]) hx hb dX4_byAllPlays_26 rfl hl (by decide) rfl (fun ls hl => ?_)
      refine lv_iload_n hx hb dX4_byAllPlays_27 rfl (lv_at hl 1 rfl) ?_
      refine lv_if_eq (tgt := 35) hx hb dX4_byAllPlays_28 (by decide) (fun c3 => ?_) (fun c3 => absurd c3 (by decide))
      refine lv_iconst (v := 5) hx hb dX4_byAllPlays_35 (by decide) ?_
      refine lv_istore (lv' := [(4, .int 5), (3, .int (fX1_playable M)), (2, .int 0), (0, .ref (ad 0)), (1, .int p1)]) hx hb dX4_byAllPlays_36 hl (by decide) rfl (fun ls hl => ?_)
      refine lv_iconst (v := 0) hx hb dX4_byAllPlays_38 (by decide) ?_
      refine lv_istore (lv' := [(5, .int 0), (4, .int 5), (3, .int (fX1_playable M)), (2, .int 0), (0, .ref (ad 0)), (1, .int p1)]) hx hb dX4_byAllPlays_39 hl (by decide) rfl (fun ls hl => ?_)
      obtain ⟨q4, hqq4, h⟩ := obind_some h
      refine L41 _ _ _ _ _ _ _ _ _ _ _ hqq4 hP hS (lv_sub hl [4, 5, 3, 2, 1, 0] rfl) (fun H locs hP hS ls hl => ?_)
      have hl := lv_sub (l' := [(4, .int q4.1)]) hl [3] rfl
      refine lv_iload hx hb dX4_byAllPlays_119 (lv_at hl 0 rfl) ?_
      obtain rfl := Option.some.inj h
      exact kr _ _ _ _ _ rfl rfl hP hS dX4_byAllPlays_121
    · rw [if_pos c2] at h
      refine lv_iconst (v := 1) hx hb dX4_byAllPlays_16 (by decide) ?_
      refine lv_goto (tgt := 21) hx hb dX4_byAllPlays_17 (by decide) ?_
      refine lv_istore_n (lv' := [(2, .int 1), (0, .ref (ad 0)), (1, .int p1)]) hx hb dX4_byAllPlays_21 rfl hl (by decide) rfl (fun ls hl => ?_)
      refine lv_aload_n hx hb dX4_byAllPlays_22 rfl (lv_at hl 1 rfl) ?_
      refine cVX S5 hK hP 0 rfl rfl (As := []) (kX1_playable l D cA ad _) (cwV 0 hts gX4_byAllPlays_X1_playable rfl rfl rfl (by decide +kernel) ⟨(Nat.le_trans (Nat.le_of_ble_eq_true rfl) (Nat.le_add_left 3 _)), (Nat.le_trans (Nat.le_of_ble_eq_true rfl) (Nat.le_add_left 68 _))⟩) rfl hl.1 (st0 := _) (rest := []) rfl (Nat.le_of_ble_eq_true rfl) dX4_byAllPlays_23 ⟨Nat.zero_le _, Nat.zero_le _⟩ ?_
      refine lv_istore_n (lv' := [(3, .int (fX1_playable M)), (2, .int 1), (0, .ref (ad 0)), (1, .int p1)]) hx hb dX4_byAllPlays_26 rfl hl (by decide) rfl (fun ls hl => ?_)
      refine lv_iload_n hx hb dX4_byAllPlays_27 rfl (lv_at hl 1 rfl) ?_
      refine lv_if_eq (tgt := 35) hx hb dX4_byAllPlays_28 (by decide) (fun c5 => absurd c5 (by decide)) (fun c5 => ?_)
      refine lv_iconst (v := (-1)) hx hb dX4_byAllPlays_31 (by decide) ?_
      refine lv_goto (tgt := 36) hx hb dX4_byAllPlays_32 (by decide) ?_
      refine lv_istore (lv' := [(4, .int ((-1))), (3, .int (fX1_playable M)), (2, .int 1), (0, .ref (ad 0)), (1, .int p1)]) hx hb dX4_byAllPlays_36 hl (by decide) rfl (fun ls hl => ?_)
      refine lv_iconst (v := 0) hx hb dX4_byAllPlays_38 (by decide) ?_
      refine lv_istore (lv' := [(5, .int 0), (4, .int ((-1))), (3, .int (fX1_playable M)), (2, .int 1), (0, .ref (ad 0)), (1, .int p1)]) hx hb dX4_byAllPlays_39 hl (by decide) rfl (fun ls hl => ?_)
      obtain ⟨q6, hqq6, h⟩ := obind_some h
      refine L41 _ _ _ _ _ _ _ _ _ _ _ hqq6 hP hS (lv_sub hl [4, 5, 3, 2, 1, 0] rfl) (fun H locs hP hS ls hl => ?_)
      have hl := lv_sub (l' := [(4, .int q6.1)]) hl [3] rfl
      refine lv_iload hx hb dX4_byAllPlays_119 (lv_at hl 0 rfl) ?_
      obtain rfl := Option.some.inj h
      exact kr _ _ _ _ _ rfl rfl hP hS dX4_byAllPlays_121
  · rw [if_neg c1] at h
    refine lv_iconst (v := 0) hx hb dX4_byAllPlays_4 (by decide) ?_
    obtain rfl := Option.some.inj h
    exact kr _ _ _ _ _ rfl rfl hP hS dX4_byAllPlays_5

-- X4_mostOfSide0
def fX4_mostOfSide0 (S : Int32 → Int32 → Int32 → Mem → Option (Int32 × Mem)) (M : Mem) : Option (Int32 × Mem) := (obind (S (fX1_cardsLeft M) 0 (fX1_tricksLeft M) M) (fun q1 => some (q1.1, q1.2)))
def rmX4_mostOfSide0 (rv : Room) : Room := { frames := rv.frames + 2, cells := 0, slots := 0, locals := rv.locals + 40 }
set_option maxHeartbeats 4000000 in
set_option maxRecDepth 100000 in
theorem kX4_mostOfSide0 (l : Launch) (D : va_G) (cA : Nat) (ad : Nat → Nat) (S : Int32 → Int32 → Int32 → Mem → Option (Int32 × Mem)) (rv : Room) (hrv : rv.cells = 0 ∧ rv.slots = 0) (hyS : ∀ (a b c : Int32) (M : Mem) (r : Int32 × Mem), S a b c M = some r → WiX l yX4_search wsX4_search rv D cA ad M [.ref (ad 6), .int a, .int b, .int c] r) (M : Mem) (r : Int32 × Mem) (h : fX4_mostOfSide0 S M = some r) : WiX l yX4_mostOfSide0 wsX4_mostOfSide0 (rmX4_mostOfSide0 rv) D cA ad M [.ref (ad 6)] r := by
  unfold fX4_mostOfSide0 at h
  refine WiX.of RX4 rfl rfl rfl (Nat.le_of_ble_eq_true rfl) ?_
  intro p e s m args below meth c Q ls A eA S5 hK hP hD hS hl kr
  have hA : ∀ (H : Heap) (q : Nat), s.heap.size ≤ H.size → AX ad H.size q → A q := fun H q hz h => by rw [eA]; exact AX.mono hz h
  obtain ⟨hx, hb, -, -, hts⟩ := id S5
  have hin : ∀ w ∈ wsX40, w ∈ wsX4_mostOfSide0 := fun _ h => List.mem_cons_of_mem _ (List.mem_append_left _ (List.mem_append_left _ (List.mem_append_right _ (h))))
  refine lv_aload_n hx hb dX4_mostOfSide0_0 rfl (lv_at hl 0 rfl) ?_
  refine lv_aload_n hx hb dX4_mostOfSide0_1 rfl (lv_at hl 0 rfl) ?_
  refine gX4_game S5 hin hK hP (List.mem_of_getElem? (i := 1) rfl) dX4_mostOfSide0_2 ?_
  refine cVX S5 hK hP 0 rfl rfl (As := []) (kX1_cardsLeft l D cA ad _) (cwV 0 hts gX4_mostOfSide0_X1_cardsLeft rfl rfl rfl (by decide +kernel) ⟨(Nat.le_trans (Nat.le_of_ble_eq_true rfl) (Nat.le_add_left 2 _)), (Nat.le_trans (Nat.le_of_ble_eq_true rfl) (Nat.le_add_left 40 _))⟩) rfl hl.1 (st0 := _) (rest := [.ref (ad 6)]) rfl (Nat.le_of_ble_eq_true rfl) dX4_mostOfSide0_5 ⟨Nat.zero_le _, Nat.zero_le _⟩ ?_
  refine lv_iconst (v := 0) hx hb dX4_mostOfSide0_8 (by decide) ?_
  refine lv_aload_n hx hb dX4_mostOfSide0_9 rfl (lv_at hl 0 rfl) ?_
  refine gX4_game S5 hin hK hP (List.mem_of_getElem? (i := 1) rfl) dX4_mostOfSide0_10 ?_
  refine cVX S5 hK hP 0 rfl rfl (As := []) (kX1_tricksLeft l D cA ad _) (cwV 0 hts gX4_mostOfSide0_X1_tricksLeft rfl rfl rfl (by decide +kernel) ⟨(Nat.le_trans (Nat.le_of_ble_eq_true rfl) (Nat.le_add_left 2 _)), (Nat.le_trans (Nat.le_of_ble_eq_true rfl) (Nat.le_add_left 40 _))⟩) rfl hl.1 (st0 := _) (rest := [.int 0, .int (fX1_cardsLeft M), .ref (ad 6)]) rfl (Nat.le_of_ble_eq_true rfl) dX4_mostOfSide0_13 ⟨Nat.zero_le _, Nat.zero_le _⟩ ?_
  obtain ⟨q1, hqq1, h⟩ := obind_some h
  refine cWiX S5 hK hP hD hS (fun _ h => hA _ _ hS.1 h) 6 rfl rfl (As := [.int (fX1_cardsLeft M), .int 0, .int (fX1_tricksLeft M)]) (hyS _ _ _ _ _ hqq1) (cwV 3 hts gX4_mostOfSide0_X4_search rfl hrv.1 hrv.2 (by decide +kernel) ⟨(by show rv.frames + 1 ≤ rv.frames + 2; omega), (by show 8 + (10 + 11) + rv.locals ≤ rv.locals + 40; omega)⟩) rfl hl.1 (st0 := _) (rest := []) rfl (Nat.le_of_ble_eq_true rfl) dX4_mostOfSide0_16 ⟨Nat.zero_le _, Nat.zero_le _⟩ (fun H locs hz hP hS => ?_)
  obtain rfl := Option.some.inj h
  exact kr _ _ _ _ _ rfl rfl hP hS dX4_mostOfSide0_19

-- X4_worthOf
def fX4_worthOf (S : Int32 → Int32 → Int32 → Mem → Option (Int32 × Mem)) (p1 : Int32) (M : Mem) : Option (Int32 × Mem) := (obind (fX1_lay p1 M) (fun q1 => (obind (S (fX1_cardsLeft q1.2) 0 (fX1_tricksLeft M) q1.2) (fun q2 => (if (fX0_sideOf (fX1_mover M)) = 0 then some ((fX4_gainOf q1.1) + q2.1, (fX1_lift q2.2).2) else some ((fX1_tricksLeft M) - ((fX4_gainOf q1.1) + q2.1), (fX1_lift q2.2).2))))))
def rmX4_worthOf (rv : Room) : Room := { frames := rv.frames + 3, cells := 0, slots := 0, locals := rv.locals + 68 }
set_option maxHeartbeats 4000000 in
set_option maxRecDepth 100000 in
theorem kX4_worthOf (l : Launch) (D : va_G) (cA : Nat) (ad : Nat → Nat) (S : Int32 → Int32 → Int32 → Mem → Option (Int32 × Mem)) (rv : Room) (hrv : rv.cells = 0 ∧ rv.slots = 0) (hyS : ∀ (a b c : Int32) (M : Mem) (r : Int32 × Mem), S a b c M = some r → WiX l yX4_search wsX4_search rv D cA ad M [.ref (ad 6), .int a, .int b, .int c] r) (p1 : Int32) (M : Mem) (r : Int32 × Mem) (h : fX4_worthOf S p1 M = some r) : WiX l yX4_worthOf wsX4_worthOf (rmX4_worthOf rv) D cA ad M [.ref (ad 6), .int p1] r := by
  unfold fX4_worthOf at h
  refine WiX.of RX4 rfl rfl rfl (Nat.le_of_ble_eq_true rfl) ?_
  intro p e s m args below meth c Q ls A eA S5 hK hP hD hS hl kr
  have hA : ∀ (H : Heap) (q : Nat), s.heap.size ≤ H.size → AX ad H.size q → A q := fun H q hz h => by rw [eA]; exact AX.mono hz h
  obtain ⟨hx, hb, -, -, hts⟩ := id S5
  have hin : ∀ w ∈ wsX40, w ∈ wsX4_worthOf := fun _ h => List.mem_cons_of_mem _ (List.mem_append_left _ (List.mem_append_left _ (List.mem_append_right _ (h))))
  refine lv_aload_n hx hb dX4_worthOf_0 rfl (lv_at hl 0 rfl) ?_
  refine gX4_game S5 hin hK hP (List.mem_of_getElem? (i := 1) rfl) dX4_worthOf_1 ?_
  refine cVX S5 hK hP 0 rfl rfl (As := []) (kX1_tricksLeft l D cA ad _) (cwV 0 hts gX4_worthOf_X1_tricksLeft rfl rfl rfl (by decide +kernel) ⟨(Nat.le_trans (Nat.le_of_ble_eq_true rfl) (Nat.le_add_left 3 _)), (Nat.le_trans (Nat.le_of_ble_eq_true rfl) (Nat.le_add_left 68 _))⟩) rfl hl.1 (st0 := _) (rest := []) rfl (Nat.le_of_ble_eq_true rfl) dX4_worthOf_4 ⟨Nat.zero_le _, Nat.zero_le _⟩ ?_
  refine lv_istore_n (lv' := [(2, .int (fX1_tricksLeft M)), (0, .ref (ad 6)), (1, .int p1)]) hx hb dX4_worthOf_7 rfl hl (by decide) rfl (fun ls hl => ?_)
  refine lv_aload_n hx hb dX4_worthOf_8 rfl (lv_at hl 1 rfl) ?_
  refine gX4_game S5 hin hK hP (List.mem_of_getElem? (i := 1) rfl) dX4_worthOf_9 ?_
  refine cVX S5 hK hP 0 rfl rfl (As := []) (kX1_mover l D cA ad _) (cwV 0 hts gX4_worthOf_X1_mover rfl rfl rfl (by decide +kernel) ⟨(Nat.le_trans (Nat.le_of_ble_eq_true rfl) (Nat.le_add_left 3 _)), (Nat.le_trans (Nat.le_of_ble_eq_true rfl) (Nat.le_add_left 68 _))⟩) rfl hl.1 (st0 := _) (rest := []) rfl (Nat.le_of_ble_eq_true rfl) dX4_worthOf_12 ⟨Nat.zero_le _, Nat.zero_le _⟩ ?_
  refine cS S5 (As := [.int (fX1_mover M)]) (kX0_sideOf l _) (va_cwS 1 hts gX4_worthOf_X0_sideOf rfl rfl rfl (by decide +kernel) ⟨(Nat.le_trans (Nat.le_of_ble_eq_true rfl) (Nat.le_add_left 3 _)), (Nat.le_trans (Nat.le_of_ble_eq_true rfl) (Nat.le_add_left 68 _))⟩) rfl hl.1 (st0 := _) (rest := []) rfl (Nat.le_of_ble_eq_true rfl) dX4_worthOf_15 ⟨Nat.zero_le _, Nat.zero_le _⟩ ?_
  refine lv_istore_n (lv' := [(3, .int (fX0_sideOf (fX1_mover M))), (2, .int (fX1_tricksLeft M)), (0, .ref (ad 6)), (1, .int p1)]) hx hb dX4_worthOf_18 rfl hl (by decide) rfl (fun ls hl => ?_)
  refine lv_aload_n hx hb dX4_worthOf_19 rfl (lv_at hl 2 rfl) ?_
  refine gX4_game S5 hin hK hP (List.mem_of_getElem? (i := 1) rfl) dX4_worthOf_20 ?_
  refine lv_iload_n hx hb dX4_worthOf_23 rfl (lv_at hl 3 rfl) ?_
  obtain ⟨q1, hqq1, h⟩ := obind_some h
  refine cWiX S5 hK hP hD hS (fun _ h => hA _ _ hS.1 h) 0 rfl rfl (As := [.int p1]) (kX1_lay l D cA ad _ _ _ hqq1) (cwV 1 hts gX4_worthOf_X1_lay rfl rfl rfl (by decide +kernel) ⟨(Nat.le_trans (Nat.le_of_ble_eq_true rfl) (Nat.le_add_left 3 _)), (Nat.le_trans (Nat.le_of_ble_eq_true rfl) (Nat.le_add_left 68 _))⟩) rfl hl.1 (st0 := _) (rest := []) rfl (Nat.le_of_ble_eq_true rfl) dX4_worthOf_24 ⟨Nat.zero_le _, Nat.zero_le _⟩ (fun H locs hz hP hS => ?_)
  refine cS S5 (As := [.int q1.1]) (kX4_gainOf l _) (va_cwS 1 hts gX4_worthOf_X4_gainOf rfl rfl rfl (by decide +kernel) ⟨(Nat.le_trans (Nat.le_of_ble_eq_true rfl) (Nat.le_add_left 3 _)), (Nat.le_trans (Nat.le_of_ble_eq_true rfl) (Nat.le_add_left 68 _))⟩) rfl hl.1 (st0 := _) (rest := []) rfl (Nat.le_of_ble_eq_true rfl) dX4_worthOf_27 ⟨Nat.zero_le _, Nat.zero_le _⟩ ?_
  refine lv_istore (lv' := [(4, .int (fX4_gainOf q1.1)), (3, .int (fX0_sideOf (fX1_mover M))), (2, .int (fX1_tricksLeft M)), (0, .ref (ad 6)), (1, .int p1)]) hx hb dX4_worthOf_30 hl (by decide) rfl (fun ls hl => ?_)
  refine lv_iload hx hb dX4_worthOf_32 (lv_at hl 0 rfl) ?_
  refine lv_aload_n hx hb dX4_worthOf_34 rfl (lv_at hl 3 rfl) ?_
  refine lv_aload_n hx hb dX4_worthOf_35 rfl (lv_at hl 3 rfl) ?_
  refine gX4_game S5 hin hK hP (List.mem_of_getElem? (i := 1) rfl) dX4_worthOf_36 ?_
  refine cVX S5 hK hP 0 rfl rfl (As := []) (kX1_cardsLeft l D cA ad _) (cwV 0 hts gX4_worthOf_X1_cardsLeft rfl rfl rfl (by decide +kernel) ⟨(Nat.le_trans (Nat.le_of_ble_eq_true rfl) (Nat.le_add_left 3 _)), (Nat.le_trans (Nat.le_of_ble_eq_true rfl) (Nat.le_add_left 68 _))⟩) rfl hl.1 (st0 := _) (rest := [.ref (ad 6), .int (fX4_gainOf q1.1)]) rfl (Nat.le_of_ble_eq_true rfl) dX4_worthOf_39 ⟨Nat.zero_le _, Nat.zero_le _⟩ ?_
  refine lv_iconst (v := 0) hx hb dX4_worthOf_42 (by decide) ?_
  refine lv_iload_n hx hb dX4_worthOf_43 rfl (lv_at hl 2 rfl) ?_
  obtain ⟨q2, hqq2, h⟩ := obind_some h
  refine cWiX S5 hK hP hD hS (fun _ h => hA _ _ hS.1 h) 6 rfl rfl (As := [.int (fX1_cardsLeft q1.2), .int 0, .int (fX1_tricksLeft M)]) (hyS _ _ _ _ _ hqq2) (cwV 3 hts gX4_worthOf_X4_search rfl hrv.1 hrv.2 (by decide +kernel) ⟨(by show rv.frames + 1 ≤ rv.frames + 3; omega), (by show 8 + (10 + 11) + rv.locals ≤ rv.locals + 68; omega)⟩) rfl hl.1 (st0 := _) (rest := [.int (fX4_gainOf q1.1)]) rfl (Nat.le_of_ble_eq_true rfl) dX4_worthOf_44 ⟨Nat.zero_le _, Nat.zero_le _⟩ (fun H locs hz hP hS => ?_)
  refine lv_iadd hx hb dX4_worthOf_47 ?_
  refine lv_istore (lv' := [(5, .int ((fX4_gainOf q1.1) + q2.1)), (4, .int (fX4_gainOf q1.1)), (3, .int (fX0_sideOf (fX1_mover M))), (2, .int (fX1_tricksLeft M)), (0, .ref (ad 6)), (1, .int p1)]) hx hb dX4_worthOf_48 hl (by decide) rfl (fun ls hl => ?_)
  refine lv_aload_n hx hb dX4_worthOf_50 rfl (lv_at hl 4 rfl) ?_
  refine gX4_game S5 hin hK hP (List.mem_of_getElem? (i := 1) rfl) dX4_worthOf_51 ?_
  refine cWiX S5 hK hP hD hS (fun _ h => hA _ _ hS.1 h) 0 rfl rfl (As := []) (kX1_lift l D cA ad _) (cwV 0 hts gX4_worthOf_X1_lift rfl rfl rfl (by decide +kernel) ⟨(Nat.le_trans (Nat.le_of_ble_eq_true rfl) (Nat.le_add_left 3 _)), (Nat.le_trans (Nat.le_of_ble_eq_true rfl) (Nat.le_add_left 68 _))⟩) rfl hl.1 (st0 := _) (rest := []) rfl (Nat.le_of_ble_eq_true rfl) dX4_worthOf_54 ⟨Nat.zero_le _, Nat.zero_le _⟩ (fun H locs hz hP hS => ?_)
  refine lv_pop hx hb dX4_worthOf_57 rfl ?_
  refine lv_iload_n hx hb dX4_worthOf_58 rfl (lv_at hl 2 rfl) ?_
  refine lv_if_ne (tgt := 67) hx hb dX4_worthOf_59 (by decide) (fun c3 => ?_) (fun c3 => ?_)
  · rw [if_neg c3] at h
    refine lv_iload_n hx hb dX4_worthOf_67 rfl (lv_at hl 3 rfl) ?_
    refine lv_iload hx hb dX4_worthOf_68 (lv_at hl 0 rfl) ?_
    refine lv_isub hx hb dX4_worthOf_70 ?_
    obtain rfl := Option.some.inj h
    exact kr _ _ _ _ _ rfl rfl hP hS dX4_worthOf_71
  · rw [if_pos c3] at h
    refine lv_iload hx hb dX4_worthOf_62 (lv_at hl 0 rfl) ?_
    refine lv_goto (tgt := 71) hx hb dX4_worthOf_64 (by decide) ?_
    obtain rfl := Option.some.inj h
    exact kr _ _ _ _ _ rfl rfl hP hS dX4_worthOf_71

-- X4_bestPlay
def fX4_bestPlay_L25 (S : Int32 → Int32 → Int32 → Mem → Option (Int32 × Mem)) : Nat → Int32 → Int32 → Int32 → Int32 → Mem → Option (Int32 × Mem)
  | 0, _, _, _, _, _ => none
  | n + 1, v1, v2, v3, v4, M => (if 4 ≤ v4 then some (v2, M) else (if v1 = 0 then some (v2, M) else (obind (fX4_worthOf S (fX0_lowest v1) M) (fun q6 => (if q6.1 ≤ v3 then fX4_bestPlay_L25 S n (v1 &&& ((sl 1 (fX0_lowest v1)) ^^^ ((-1)))) v2 v3 (v4 + 1) q6.2 else fX4_bestPlay_L25 S n (v1 &&& ((sl 1 (fX0_lowest v1)) ^^^ ((-1)))) (fX0_lowest v1) q6.1 (v4 + 1) q6.2)))))
def fX4_bestPlay (S : Int32 → Int32 → Int32 → Mem → Option (Int32 × Mem)) (M : Mem) : Option (Int32 × Mem) := (obind (fX1_out M) (fun q1 => (obind (fX0_lowestOfEquals (fX1_playable M) q1) (fun q2 => (obind (fX4_bestPlay_L25 S 40 q2 ((-1)) ((-1)) 0 M) (fun q3 => some (q3.1, q3.2)))))))
def rmX4_bestPlay (rv : Room) : Room := { frames := rv.frames + 4, cells := 0, slots := 0, locals := rv.locals + 93 }
set_option maxHeartbeats 4000000 in
set_option maxRecDepth 100000 in
theorem kX4_bestPlay (l : Launch) (D : va_G) (cA : Nat) (ad : Nat → Nat) (S : Int32 → Int32 → Int32 → Mem → Option (Int32 × Mem)) (rv : Room) (hrv : rv.cells = 0 ∧ rv.slots = 0) (hyS : ∀ (a b c : Int32) (M : Mem) (r : Int32 × Mem), S a b c M = some r → WiX l yX4_search wsX4_search rv D cA ad M [.ref (ad 6), .int a, .int b, .int c] r) (M : Mem) (r : Int32 × Mem) (h : fX4_bestPlay S M = some r) : WiX l yX4_bestPlay wsX4_bestPlay (rmX4_bestPlay rv) D cA ad M [.ref (ad 6)] r := by
  unfold fX4_bestPlay at h
  refine WiX.of RX4 rfl rfl rfl (Nat.le_of_ble_eq_true rfl) ?_
  intro p e s m args below meth c Q ls A eA S5 hK hP hD hS hl kr
  have hA : ∀ (H : Heap) (q : Nat), s.heap.size ≤ H.size → AX ad H.size q → A q := fun H q hz h => by rw [eA]; exact AX.mono hz h
  obtain ⟨hx, hb, -, -, hts⟩ := id S5
  have hin : ∀ w ∈ wsX40, w ∈ wsX4_bestPlay := fun _ h => List.mem_cons_of_mem _ (List.mem_append_left _ (List.mem_append_left _ (List.mem_append_right _ (h))))
  have L25 : ∀ (n : Nat) (v1 : Int32) (v2 : Int32) (v3 : Int32) (v4 : Int32) (M : Mem) (r' : Int32 × Mem) (H : Heap) (locs : List Loc) (ls : Array Slot), fX4_bestPlay_L25 S n v1 v2 v3 v4 M = some r' → va_P D vwCl (wX cA ad M) H → va_S A s.heap H locs → lv_has ls 7 [(0, .ref (ad 6)), (1, .int v1), (2, .int v2), (3, .int v3), (4, .int v4)] → (∀ (H : Heap) (locs : List Loc), va_P D vwCl (wX cA ad (r'.2)) H → va_S A s.heap H locs → ∀ (ls : Array Slot), lv_has ls 7 [(0, .ref (ad 6)), (2, .int (r'.1))] → W p l e (rmX4_bestPlay rv) s m args below meth c H locs 0 0 Q (F0 m 76 ls [])) → W p l e (rmX4_bestPlay rv) s m args below meth c H locs 0 0 Q (F0 m 25 ls []) := by
    intro n
    induction n with
    | zero => intro v1 v2 v3 v4 M r' H locs ls h hP hS hl kk; rw [fX4_bestPlay_L25.eq_1] at h; cases h
    | succ n ih =>
      intro v1 v2 v3 v4 M r' H locs ls h hP hS hl kk
      rw [fX4_bestPlay_L25.eq_2] at h
      refine lv_iload hx hb dX4_bestPlay_25 (lv_at hl 4 rfl) ?_
      refine lv_iconst (v := 4) hx hb dX4_bestPlay_27 (by decide) ?_
      refine lv_icmp_ge (tgt := 76) hx hb dX4_bestPlay_28 (by decide) (fun c4 => ?_) (fun c4 => ?_)
      · rw [if_pos c4] at h
        obtain rfl := Option.some.inj h
        exact kk _ _ hP hS _ (lv_sub hl [0, 2] rfl)
      · rw [if_neg c4] at h
        refine lv_iload_n hx hb dX4_bestPlay_31 rfl (lv_at hl 1 rfl) ?_
        refine lv_if_eq (tgt := 76) hx hb dX4_bestPlay_32 (by decide) (fun c5 => ?_) (fun c5 => ?_)
        · rw [if_pos c5] at h
          obtain rfl := Option.some.inj h
          exact kk _ _ hP hS _ (lv_sub hl [0, 2] rfl)
        · rw [if_neg c5] at h
          refine lv_iload_n hx hb dX4_bestPlay_35 rfl (lv_at hl 1 rfl) ?_
          refine cS S5 (As := [.int v1]) (kX0_lowest l _) (va_cwS 1 hts gX4_bestPlay_X0_lowest rfl rfl rfl (by decide +kernel) ⟨(Nat.le_trans (Nat.le_of_ble_eq_true rfl) (Nat.le_add_left 4 _)), (Nat.le_trans (Nat.le_of_ble_eq_true rfl) (Nat.le_add_left 93 _))⟩) rfl hl.1 (st0 := _) (rest := []) rfl (Nat.le_of_ble_eq_true rfl) dX4_bestPlay_36 ⟨Nat.zero_le _, Nat.zero_le _⟩ ?_
          refine lv_istore (lv' := [(5, .int (fX0_lowest v1)), (0, .ref (ad 6)), (1, .int v1), (2, .int v2), (3, .int v3), (4, .int v4)]) hx hb dX4_bestPlay_39 hl (by decide) rfl (fun ls hl => ?_)
          refine lv_iload_n hx hb dX4_bestPlay_41 rfl (lv_at hl 2 rfl) ?_
          refine lv_iconst (v := 1) hx hb dX4_bestPlay_42 (by decide) ?_
          refine lv_iload hx hb dX4_bestPlay_43 (lv_at hl 0 rfl) ?_
          refine r_ishl S5 dX4_bestPlay_45 ?_
          refine lv_iconst (v := (-1)) hx hb dX4_bestPlay_46 (by decide) ?_
          refine lv_ixor hx hb dX4_bestPlay_47 ?_
          refine lv_iand hx hb dX4_bestPlay_48 ?_
          refine lv_istore_n (lv' := [(1, .int (v1 &&& ((sl 1 (fX0_lowest v1)) ^^^ ((-1))))), (5, .int (fX0_lowest v1)), (0, .ref (ad 6)), (2, .int v2), (3, .int v3), (4, .int v4)]) hx hb dX4_bestPlay_49 rfl hl (by decide) rfl (fun ls hl => ?_)
          refine lv_aload_n hx hb dX4_bestPlay_50 rfl (lv_at hl 2 rfl) ?_
          refine lv_iload hx hb dX4_bestPlay_51 (lv_at hl 1 rfl) ?_
          obtain ⟨q6, hqq6, h⟩ := obind_some h
          refine cWiX S5 hK hP hD hS (fun _ h => hA _ _ hS.1 h) 6 rfl rfl (As := [.int (fX0_lowest v1)]) (kX4_worthOf l D cA ad S rv hrv hyS _ _ _ hqq6) (cwV 1 hts gX4_bestPlay_X4_worthOf rfl rfl rfl (by decide +kernel) ⟨(by show rv.frames + 3 + 1 ≤ rv.frames + 4; omega), (by show 8 + (6 + 11) + (rv.locals + 68) ≤ rv.locals + 93; omega)⟩) rfl hl.1 (st0 := _) (rest := []) rfl (Nat.le_of_ble_eq_true rfl) dX4_bestPlay_53 ⟨Nat.zero_le _, Nat.zero_le _⟩ (fun H locs hz hP hS => ?_)
          refine lv_istore (lv' := [(6, .int q6.1), (1, .int (v1 &&& ((sl 1 (fX0_lowest v1)) ^^^ ((-1))))), (5, .int (fX0_lowest v1)), (0, .ref (ad 6)), (2, .int v2), (3, .int v3), (4, .int v4)]) hx hb dX4_bestPlay_56 hl (by decide) rfl (fun ls hl => ?_)
          refine lv_iload hx hb dX4_bestPlay_58 (lv_at hl 0 rfl) ?_
          refine lv_iload_n hx hb dX4_bestPlay_60 rfl (lv_at hl 5 rfl) ?_
          refine lv_icmp_le (tgt := 70) hx hb dX4_bestPlay_61 (by decide) (fun c7 => ?_) (fun c7 => ?_)
          · rw [if_pos c7] at h
            refine lv_iinc (v := v4 + 1) (lv' := [(4, .int (v4 + 1)), (6, .int q6.1), (1, .int (v1 &&& ((sl 1 (fX0_lowest v1)) ^^^ ((-1))))), (5, .int (fX0_lowest v1)), (0, .ref (ad 6)), (2, .int v2), (3, .int v3)]) hx hb dX4_bestPlay_70 hl (k := 6) rfl rfl (by decide) rfl (fun ls hl => ?_)
            refine lv_goto (tgt := 25) hx hb dX4_bestPlay_73 (by decide) ?_
            exact ih _ _ _ _ _ _ _ _ _ h hP hS (lv_sub hl [4, 2, 5, 6, 0] rfl) kk
          · rw [if_neg c7] at h
            refine lv_iload hx hb dX4_bestPlay_64 (lv_at hl 0 rfl) ?_
            refine lv_istore_n (lv' := [(3, .int q6.1), (6, .int q6.1), (1, .int (v1 &&& ((sl 1 (fX0_lowest v1)) ^^^ ((-1))))), (5, .int (fX0_lowest v1)), (0, .ref (ad 6)), (2, .int v2), (4, .int v4)]) hx hb dX4_bestPlay_66 rfl hl (by decide) rfl (fun ls hl => ?_)
            refine lv_iload hx hb dX4_bestPlay_67 (lv_at hl 3 rfl) ?_
            refine lv_istore_n (lv' := [(2, .int (fX0_lowest v1)), (3, .int q6.1), (6, .int q6.1), (1, .int (v1 &&& ((sl 1 (fX0_lowest v1)) ^^^ ((-1))))), (5, .int (fX0_lowest v1)), (0, .ref (ad 6)), (4, .int v4)]) hx hb dX4_bestPlay_69 rfl hl (by decide) rfl (fun ls hl => ?_)
            refine lv_iinc (v := v4 + 1) (lv' := [(4, .int (v4 + 1)), (2, .int (fX0_lowest v1)), (3, .int q6.1), (6, .int q6.1), (1, .int (v1 &&& ((sl 1 (fX0_lowest v1)) ^^^ ((-1))))), (5, .int (fX0_lowest v1)), (0, .ref (ad 6))]) hx hb dX4_bestPlay_70 hl (k := 6) rfl rfl (by decide) rfl (fun ls hl => ?_)
            refine lv_goto (tgt := 25) hx hb dX4_bestPlay_73 (by decide) ?_
            exact ih _ _ _ _ _ _ _ _ _ h hP hS (lv_sub hl [6, 4, 1, 2, 0] rfl) kk
  refine lv_aload_n hx hb dX4_bestPlay_0 rfl (lv_at hl 0 rfl) ?_
  refine gX4_game S5 hin hK hP (List.mem_of_getElem? (i := 1) rfl) dX4_bestPlay_1 ?_
  refine cVX S5 hK hP 0 rfl rfl (As := []) (kX1_playable l D cA ad _) (cwV 0 hts gX4_bestPlay_X1_playable rfl rfl rfl (by decide +kernel) ⟨(Nat.le_trans (Nat.le_of_ble_eq_true rfl) (Nat.le_add_left 4 _)), (Nat.le_trans (Nat.le_of_ble_eq_true rfl) (Nat.le_add_left 93 _))⟩) rfl hl.1 (st0 := _) (rest := []) rfl (Nat.le_of_ble_eq_true rfl) dX4_bestPlay_4 ⟨Nat.zero_le _, Nat.zero_le _⟩ ?_
  refine lv_aload_n hx hb dX4_bestPlay_7 rfl (lv_at hl 0 rfl) ?_
  refine gX4_game S5 hin hK hP (List.mem_of_getElem? (i := 1) rfl) dX4_bestPlay_8 ?_
  obtain ⟨q1, hqq1, h⟩ := obind_some h
  refine cVX S5 hK hP 0 rfl rfl (As := []) (kX1_out l D cA ad _ _ hqq1) (cwV 0 hts gX4_bestPlay_X1_out rfl rfl rfl (by decide +kernel) ⟨(Nat.le_trans (Nat.le_of_ble_eq_true rfl) (Nat.le_add_left 4 _)), (Nat.le_trans (Nat.le_of_ble_eq_true rfl) (Nat.le_add_left 93 _))⟩) rfl hl.1 (st0 := _) (rest := [.int (fX1_playable M)]) rfl (Nat.le_of_ble_eq_true rfl) dX4_bestPlay_11 ⟨Nat.zero_le _, Nat.zero_le _⟩ ?_
  obtain ⟨q2, hqq2, h⟩ := obind_some h
  refine cS S5 (As := [.int (fX1_playable M), .int q1]) (kX0_lowestOfEquals l _ _ _ hqq2) (va_cwS 2 hts gX4_bestPlay_X0_lowestOfEquals rfl rfl rfl (by decide +kernel) ⟨(Nat.le_trans (Nat.le_of_ble_eq_true rfl) (Nat.le_add_left 4 _)), (Nat.le_trans (Nat.le_of_ble_eq_true rfl) (Nat.le_add_left 93 _))⟩) rfl hl.1 (st0 := _) (rest := []) rfl (Nat.le_of_ble_eq_true rfl) dX4_bestPlay_14 ⟨Nat.zero_le _, Nat.zero_le _⟩ ?_
  refine lv_istore_n (lv' := [(1, .int q2), (0, .ref (ad 6))]) hx hb dX4_bestPlay_17 rfl hl (by decide) rfl (fun ls hl => ?_)
  refine lv_iconst (v := (-1)) hx hb dX4_bestPlay_18 (by decide) ?_
  refine lv_istore_n (lv' := [(2, .int ((-1))), (1, .int q2), (0, .ref (ad 6))]) hx hb dX4_bestPlay_19 rfl hl (by decide) rfl (fun ls hl => ?_)
  refine lv_iconst (v := (-1)) hx hb dX4_bestPlay_20 (by decide) ?_
  refine lv_istore_n (lv' := [(3, .int ((-1))), (2, .int ((-1))), (1, .int q2), (0, .ref (ad 6))]) hx hb dX4_bestPlay_21 rfl hl (by decide) rfl (fun ls hl => ?_)
  refine lv_iconst (v := 0) hx hb dX4_bestPlay_22 (by decide) ?_
  refine lv_istore (lv' := [(4, .int 0), (3, .int ((-1))), (2, .int ((-1))), (1, .int q2), (0, .ref (ad 6))]) hx hb dX4_bestPlay_23 hl (by decide) rfl (fun ls hl => ?_)
  obtain ⟨q3, hqq3, h⟩ := obind_some h
  refine L25 _ _ _ _ _ _ _ _ _ _ hqq3 hP hS (lv_sub hl [4, 3, 2, 1, 0] rfl) (fun H locs hP hS ls hl => ?_)
  have hl := lv_sub (l' := [(2, .int q3.1)]) hl [1] rfl
  refine lv_iload_n hx hb dX4_bestPlay_76 rfl (lv_at hl 0 rfl) ?_
  obtain rfl := Option.some.inj h
  exact kr _ _ _ _ _ rfl rfl hP hS dX4_bestPlay_77

-- X4_forget
def fX4_forget (M : Mem) : Option (Mem) := (obind (fX2_clear M) (fun q1 => some (q1)))
def rmX4_forget : Room := { frames := 1, cells := 0, slots := 0, locals := 21 }
set_option maxHeartbeats 4000000 in
set_option maxRecDepth 100000 in
theorem kX4_forget (l : Launch) (D : va_G) (cA : Nat) (ad : Nat → Nat) (M : Mem) (r : Mem) (h : fX4_forget M = some r) : WvX l yX4_forget wsX4_forget rmX4_forget D cA ad M [.ref (ad 6)] r := by
  unfold fX4_forget at h
  refine WvX.of RX4 rfl rfl rfl (Nat.le_of_ble_eq_true rfl) ?_
  intro p e s m args below meth c Q ls A eA S5 hK hP hD hS hl kr
  have hA : ∀ (H : Heap) (q : Nat), s.heap.size ≤ H.size → AX ad H.size q → A q := fun H q hz h => by rw [eA]; exact AX.mono hz h
  obtain ⟨hx, hb, -, -, hts⟩ := id S5
  have hin : ∀ w ∈ wsX40, w ∈ wsX4_forget := fun _ h => List.mem_cons_of_mem _ (List.mem_append_left _ (List.mem_append_right _ (h)))
  refine lv_aload_n hx hb dX4_forget_0 rfl (lv_at hl 0 rfl) ?_
  refine gX4_kept S5 hin hK hP (List.mem_of_getElem? (i := 1) rfl) dX4_forget_1 ?_
  obtain ⟨q1, hqq1, h⟩ := obind_some h
  refine cWvX S5 hK hP hD hS (fun _ h => hA _ _ hS.1 h) 4 rfl rfl (As := []) (kX2_clear l D cA ad _ _ hqq1) (cwV 0 hts gX4_forget_X2_clear rfl rfl rfl (by decide +kernel) ⟨(Nat.le_of_ble_eq_true rfl), (Nat.le_of_ble_eq_true rfl)⟩) rfl hl.1 (st0 := _) (rest := []) rfl (Nat.le_of_ble_eq_true rfl) dX4_forget_4 ⟨Nat.zero_le _, Nat.zero_le _⟩ (fun H locs hz hP hS => ?_)
  obtain rfl := Option.some.inj h
  exact kr _ _ _ _ hP hS dX4_forget_7
