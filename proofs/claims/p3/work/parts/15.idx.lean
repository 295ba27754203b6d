set_option maxHeartbeats 4000000 in
set_option maxRecDepth 100000 in
theorem ix_canEncode (l : Launch) (b aK aV : Nat) (ch : Int32) : Met l jJ1_canEncode_9a6ad.1 (fx_ws jJ1_canEncode_9a6ad) (fx_rm 0 0 0) (va_Pc [.int ch] (fx_SL b aK aV)) (vp_Si (fun r => True)) 0 0 (fun _ => False) := by
  refine Met.ofW (cc := jJ1_canEncode_9a6ad.2.1) (maxL := 1) (ret := some .boolean) (by decide) rfl ?_
  intro p e s m args below meth c s₁ B hml hv
  obtain ⟨rfl, hSL⟩ := hv
  obtain ⟨h0, h1, h2, h3⟩ := id hSL
  have hx := B.exec
  have hb := B.bytes
  have hr := B.returns
  have hts := atoms_spec (ws := fx_ws jJ1_canEncode_9a6ad) B.pre
  have hown : s.vm.findClass "java/lang/StringLatin1" = some m.cls := findClass_of_methodNamed B.named
  have hlocks := B.notSynchronized
  have hS : va_S (fun q => b ≤ q) s.heap s.heap [] := va_S.rf
  have hl := lv_entry ([.int ch]) (n := 1) (Nat.le_of_ble_eq_true rfl)
  rw [lg_entry_eq]
  generalize (lg_sl ([.int ch]) ++ List.replicate (1 - (lg_sl ([.int ch])).length) Slot.unset).toArray = ls0 at hl ⊢
  have hl0 : lv_has ls0 1 [(0, .int ch)] := hl
  refine lv_iload_n hx hb dJ1_canEncode_9a6ad_0 rfl (lv_at hl0 0 rfl) ?_
  refine lv_if_lt (tgt := 15) hx hb dJ1_canEncode_9a6ad_1 (by decide) (fun c1 => ?_) (fun c1 => ?_)
  · skip
    refine lv_iconst (v := 0) hx hb dJ1_canEncode_9a6ad_15 (by decide) ?_
    exact W.zret (ty := .boolean) hx hb hr (by rfl) (fun t ht hW => ⟨_, rfl, trivial, ht⟩) (fun q hq => by cases hq) dJ1_canEncode_9a6ad_16 hlocks
  · skip
    refine lv_iload_n hx hb dJ1_canEncode_9a6ad_4 rfl (lv_at hl0 0 rfl) ?_
    refine lv_sipush (v := 255) hx hb dJ1_canEncode_9a6ad_5 (by decide) ?_
    refine lv_icmp_gt (tgt := 15) hx hb dJ1_canEncode_9a6ad_8 (by decide) (fun c2 => ?_) (fun c2 => ?_)
    · skip
      refine lv_iconst (v := 0) hx hb dJ1_canEncode_9a6ad_15 (by decide) ?_
      exact W.zret (ty := .boolean) hx hb hr (by rfl) (fun t ht hW => ⟨_, rfl, trivial, ht⟩) (fun q hq => by cases hq) dJ1_canEncode_9a6ad_16 hlocks
    · skip
      refine lv_iconst (v := 1) hx hb dJ1_canEncode_9a6ad_11 (by decide) ?_
      refine lv_goto (tgt := 16) hx hb dJ1_canEncode_9a6ad_12 (by decide) ?_
      exact W.zret (ty := .boolean) hx hb hr (by rfl) (fun t ht hW => ⟨_, rfl, trivial, ht⟩) (fun q hq => by cases hq) dJ1_canEncode_9a6ad_16 hlocks

set_option maxHeartbeats 4000000 in
set_option maxRecDepth 100000 in
theorem ix_indexOfChar (l : Launch) (b aK aV : Nat) (ch : Int32) : Met l jJ1_indexOfChar_4cfef.1 (fx_ws jJ1_indexOfChar_4cfef) (fx_rm 0 0 0) (va_Pc [.ref aV, .int ch, .int 0, .int 10] (fx_SL b aK aV)) (vp_Si (fun r => True)) 0 0 (fun _ => False) := by
  refine Met.ofW (cc := jJ1_indexOfChar_4cfef.2.1) (maxL := 6) (ret := some .int) (by decide) rfl ?_
  intro p e s m args below meth c s₁ B hml hv
  obtain ⟨rfl, hSL⟩ := hv
  obtain ⟨h0, h1, h2, h3⟩ := id hSL
  have hx := B.exec
  have hb := B.bytes
  have hr := B.returns
  have hts := atoms_spec (ws := fx_ws jJ1_indexOfChar_4cfef) B.pre
  have hown : s.vm.findClass "java/lang/StringLatin1" = some m.cls := findClass_of_methodNamed B.named
  have hlocks := B.notSynchronized
  have hS : va_S (fun q => b ≤ q) s.heap s.heap [] := va_S.rf
  have hl := lv_entry ([.ref aV, .int ch, .int 0, .int 10]) (n := 6) (Nat.le_of_ble_eq_true rfl)
  rw [lg_entry_eq]
  generalize (lg_sl ([.ref aV, .int ch, .int 0, .int 10]) ++ List.replicate (6 - (lg_sl ([.ref aV, .int ch, .int 0, .int 10])).length) Slot.unset).toArray = ls0 at hl ⊢
  have hl0 : lv_has ls0 6 [(0, .ref aV), (1, .int ch), (2, .int 0), (3, .int 10)] := hl
  refine lv_iload_n hx hb dJ1_indexOfChar_4cfef_0 rfl (lv_at hl0 1 rfl) ?_
  refine lv_i2b (v := (ch).toInt8.toInt32) hx hb dJ1_indexOfChar_4cfef_1 rfl ?_
  refine lv_istore (lv' := [(4, .int ((ch).toInt8.toInt32)), (0, .ref aV), (1, .int ch), (2, .int 0), (3, .int 10)]) hx hb dJ1_indexOfChar_4cfef_2 hl0 (Nat.le_of_ble_eq_true rfl) rfl (fun ls1 hl1 => ?_)
  refine lv_iload_n hx hb dJ1_indexOfChar_4cfef_4 rfl (lv_at hl1 3 rfl) ?_
  refine lv_istore (lv' := [(5, .int 0), (4, .int ((ch).toInt8.toInt32)), (0, .ref aV), (1, .int ch), (2, .int 0), (3, .int 10)]) hx hb dJ1_indexOfChar_4cfef_5 hl1 (Nat.le_of_ble_eq_true rfl) rfl (fun ls2 hl2 => ?_)
  refine lv_iload hx hb dJ1_indexOfChar_4cfef_7 (lv_at hl2 0 rfl) ?_
  refine lv_iload_n hx hb dJ1_indexOfChar_4cfef_9 rfl (lv_at hl2 5 rfl) ?_
  refine lv_icmp_ge (tgt := 31) hx hb dJ1_indexOfChar_4cfef_10 (by decide) (fun c3 => absurd c3 (by decide)) (fun c3 => ?_)
  refine lv_aload_n hx hb dJ1_indexOfChar_4cfef_13 rfl (lv_at hl2 2 rfl) ?_
  refine lv_iload hx hb dJ1_indexOfChar_4cfef_14 (lv_at hl2 0 rfl) ?_
  refine va_tb (v := .int 107) hx hb h2 hS (vp_in_nI (n := 0) (N := 10) (by decide) (by decide)) rfl dJ1_indexOfChar_4cfef_16 ?_
  refine lv_iload hx hb dJ1_indexOfChar_4cfef_17 (lv_at hl2 1 rfl) ?_
  refine lv_icmp_ne (tgt := 25) hx hb dJ1_indexOfChar_4cfef_19 (by decide) (fun c4 => ?_) (fun c4 => ?_)
  · skip
    refine lv_iinc (k := 0) (v := 1) (lv' := [(5, .int 1), (4, .int ((ch).toInt8.toInt32)), (0, .ref aV), (1, .int ch), (2, .int 0), (3, .int 10)]) hx hb dJ1_indexOfChar_4cfef_25 hl2 rfl (by decide) (Nat.le_of_ble_eq_true rfl) rfl (fun ls5 hl5 => ?_)
    refine lv_goto (tgt := 7) hx hb dJ1_indexOfChar_4cfef_28 (by decide) ?_
    refine lv_iload hx hb dJ1_indexOfChar_4cfef_7 (lv_at hl5 0 rfl) ?_
    refine lv_iload_n hx hb dJ1_indexOfChar_4cfef_9 rfl (lv_at hl5 5 rfl) ?_
    refine lv_icmp_ge (tgt := 31) hx hb dJ1_indexOfChar_4cfef_10 (by decide) (fun c6 => absurd c6 (by decide)) (fun c6 => ?_)
    refine lv_aload_n hx hb dJ1_indexOfChar_4cfef_13 rfl (lv_at hl5 2 rfl) ?_
    refine lv_iload hx hb dJ1_indexOfChar_4cfef_14 (lv_at hl5 0 rfl) ?_
    refine va_tb (v := .int 100) hx hb h2 hS (vp_in_nI (n := 1) (N := 10) (by decide) (by decide)) rfl dJ1_indexOfChar_4cfef_16 ?_
    refine lv_iload hx hb dJ1_indexOfChar_4cfef_17 (lv_at hl5 1 rfl) ?_
    refine lv_icmp_ne (tgt := 25) hx hb dJ1_indexOfChar_4cfef_19 (by decide) (fun c7 => ?_) (fun c7 => ?_)
    · skip
      refine lv_iinc (k := 0) (v := 2) (lv' := [(5, .int 2), (4, .int ((ch).toInt8.toInt32)), (0, .ref aV), (1, .int ch), (2, .int 0), (3, .int 10)]) hx hb dJ1_indexOfChar_4cfef_25 hl5 rfl (by decide) (Nat.le_of_ble_eq_true rfl) rfl (fun ls8 hl8 => ?_)
      refine lv_goto (tgt := 7) hx hb dJ1_indexOfChar_4cfef_28 (by decide) ?_
      refine lv_iload hx hb dJ1_indexOfChar_4cfef_7 (lv_at hl8 0 rfl) ?_
      refine lv_iload_n hx hb dJ1_indexOfChar_4cfef_9 rfl (lv_at hl8 5 rfl) ?_
      refine lv_icmp_ge (tgt := 31) hx hb dJ1_indexOfChar_4cfef_10 (by decide) (fun c9 => absurd c9 (by decide)) (fun c9 => ?_)
      refine lv_aload_n hx hb dJ1_indexOfChar_4cfef_13 rfl (lv_at hl8 2 rfl) ?_
      refine lv_iload hx hb dJ1_indexOfChar_4cfef_14 (lv_at hl8 0 rfl) ?_
      refine va_tb (v := .int 102) hx hb h2 hS (vp_in_nI (n := 2) (N := 10) (by decide) (by decide)) rfl dJ1_indexOfChar_4cfef_16 ?_
      refine lv_iload hx hb dJ1_indexOfChar_4cfef_17 (lv_at hl8 1 rfl) ?_
      refine lv_icmp_ne (tgt := 25) hx hb dJ1_indexOfChar_4cfef_19 (by decide) (fun c10 => ?_) (fun c10 => ?_)
      · skip
        refine lv_iinc (k := 0) (v := 3) (lv' := [(5, .int 3), (4, .int ((ch).toInt8.toInt32)), (0, .ref aV), (1, .int ch), (2, .int 0), (3, .int 10)]) hx hb dJ1_indexOfChar_4cfef_25 hl8 rfl (by decide) (Nat.le_of_ble_eq_true rfl) rfl (fun ls11 hl11 => ?_)
        refine lv_goto (tgt := 7) hx hb dJ1_indexOfChar_4cfef_28 (by decide) ?_
        refine lv_iload hx hb dJ1_indexOfChar_4cfef_7 (lv_at hl11 0 rfl) ?_
        refine lv_iload_n hx hb dJ1_indexOfChar_4cfef_9 rfl (lv_at hl11 5 rfl) ?_
        refine lv_icmp_ge (tgt := 31) hx hb dJ1_indexOfChar_4cfef_10 (by decide) (fun c12 => absurd c12 (by decide)) (fun c12 => ?_)
        refine lv_aload_n hx hb dJ1_indexOfChar_4cfef_13 rfl (lv_at hl11 2 rfl) ?_
        refine lv_iload hx hb dJ1_indexOfChar_4cfef_14 (lv_at hl11 0 rfl) ?_
        refine va_tb (v := .int 118) hx hb h2 hS (vp_in_nI (n := 3) (N := 10) (by decide) (by decide)) rfl dJ1_indexOfChar_4cfef_16 ?_
        refine lv_iload hx hb dJ1_indexOfChar_4cfef_17 (lv_at hl11 1 rfl) ?_
        refine lv_icmp_ne (tgt := 25) hx hb dJ1_indexOfChar_4cfef_19 (by decide) (fun c13 => ?_) (fun c13 => ?_)
        · skip
          refine lv_iinc (k := 0) (v := 4) (lv' := [(5, .int 4), (4, .int ((ch).toInt8.toInt32)), (0, .ref aV), (1, .int ch), (2, .int 0), (3, .int 10)]) hx hb dJ1_indexOfChar_4cfef_25 hl11 rfl (by decide) (Nat.le_of_ble_eq_true rfl) rfl (fun ls14 hl14 => ?_)
          refine lv_goto (tgt := 7) hx hb dJ1_indexOfChar_4cfef_28 (by decide) ?_
          refine lv_iload hx hb dJ1_indexOfChar_4cfef_7 (lv_at hl14 0 rfl) ?_
          refine lv_iload_n hx hb dJ1_indexOfChar_4cfef_9 rfl (lv_at hl14 5 rfl) ?_
          refine lv_icmp_ge (tgt := 31) hx hb dJ1_indexOfChar_4cfef_10 (by decide) (fun c15 => absurd c15 (by decide)) (fun c15 => ?_)
          refine lv_aload_n hx hb dJ1_indexOfChar_4cfef_13 rfl (lv_at hl14 2 rfl) ?_
          refine lv_iload hx hb dJ1_indexOfChar_4cfef_14 (lv_at hl14 0 rfl) ?_
          refine va_tb (v := .int 103) hx hb h2 hS (vp_in_nI (n := 4) (N := 10) (by decide) (by decide)) rfl dJ1_indexOfChar_4cfef_16 ?_
          refine lv_iload hx hb dJ1_indexOfChar_4cfef_17 (lv_at hl14 1 rfl) ?_
          refine lv_icmp_ne (tgt := 25) hx hb dJ1_indexOfChar_4cfef_19 (by decide) (fun c16 => ?_) (fun c16 => ?_)
          · skip
            refine lv_iinc (k := 0) (v := 5) (lv' := [(5, .int 5), (4, .int ((ch).toInt8.toInt32)), (0, .ref aV), (1, .int ch), (2, .int 0), (3, .int 10)]) hx hb dJ1_indexOfChar_4cfef_25 hl14 rfl (by decide) (Nat.le_of_ble_eq_true rfl) rfl (fun ls17 hl17 => ?_)
            refine lv_goto (tgt := 7) hx hb dJ1_indexOfChar_4cfef_28 (by decide) ?_
            refine lv_iload hx hb dJ1_indexOfChar_4cfef_7 (lv_at hl17 0 rfl) ?_
            refine lv_iload_n hx hb dJ1_indexOfChar_4cfef_9 rfl (lv_at hl17 5 rfl) ?_
            refine lv_icmp_ge (tgt := 31) hx hb dJ1_indexOfChar_4cfef_10 (by decide) (fun c18 => absurd c18 (by decide)) (fun c18 => ?_)
            refine lv_aload_n hx hb dJ1_indexOfChar_4cfef_13 rfl (lv_at hl17 2 rfl) ?_
            refine lv_iload hx hb dJ1_indexOfChar_4cfef_14 (lv_at hl17 0 rfl) ?_
            refine va_tb (v := .int 109) hx hb h2 hS (vp_in_nI (n := 5) (N := 10) (by decide) (by decide)) rfl dJ1_indexOfChar_4cfef_16 ?_
            refine lv_iload hx hb dJ1_indexOfChar_4cfef_17 (lv_at hl17 1 rfl) ?_
            refine lv_icmp_ne (tgt := 25) hx hb dJ1_indexOfChar_4cfef_19 (by decide) (fun c19 => ?_) (fun c19 => ?_)
            · skip
              refine lv_iinc (k := 0) (v := 6) (lv' := [(5, .int 6), (4, .int ((ch).toInt8.toInt32)), (0, .ref aV), (1, .int ch), (2, .int 0), (3, .int 10)]) hx hb dJ1_indexOfChar_4cfef_25 hl17 rfl (by decide) (Nat.le_of_ble_eq_true rfl) rfl (fun ls20 hl20 => ?_)
              refine lv_goto (tgt := 7) hx hb dJ1_indexOfChar_4cfef_28 (by decide) ?_
              refine lv_iload hx hb dJ1_indexOfChar_4cfef_7 (lv_at hl20 0 rfl) ?_
              refine lv_iload_n hx hb dJ1_indexOfChar_4cfef_9 rfl (lv_at hl20 5 rfl) ?_
              refine lv_icmp_ge (tgt := 31) hx hb dJ1_indexOfChar_4cfef_10 (by decide) (fun c21 => absurd c21 (by decide)) (fun c21 => ?_)
              refine lv_aload_n hx hb dJ1_indexOfChar_4cfef_13 rfl (lv_at hl20 2 rfl) ?_
              refine lv_iload hx hb dJ1_indexOfChar_4cfef_14 (lv_at hl20 0 rfl) ?_
              refine va_tb (v := .int 110) hx hb h2 hS (vp_in_nI (n := 6) (N := 10) (by decide) (by decide)) rfl dJ1_indexOfChar_4cfef_16 ?_
              refine lv_iload hx hb dJ1_indexOfChar_4cfef_17 (lv_at hl20 1 rfl) ?_
              refine lv_icmp_ne (tgt := 25) hx hb dJ1_indexOfChar_4cfef_19 (by decide) (fun c22 => ?_) (fun c22 => ?_)
              · skip
                refine lv_iinc (k := 0) (v := 7) (lv' := [(5, .int 7), (4, .int ((ch).toInt8.toInt32)), (0, .ref aV), (1, .int ch), (2, .int 0), (3, .int 10)]) hx hb dJ1_indexOfChar_4cfef_25 hl20 rfl (by decide) (Nat.le_of_ble_eq_true rfl) rfl (fun ls23 hl23 => ?_)
                refine lv_goto (tgt := 7) hx hb dJ1_indexOfChar_4cfef_28 (by decide) ?_
                refine lv_iload hx hb dJ1_indexOfChar_4cfef_7 (lv_at hl23 0 rfl) ?_
                refine lv_iload_n hx hb dJ1_indexOfChar_4cfef_9 rfl (lv_at hl23 5 rfl) ?_
                refine lv_icmp_ge (tgt := 31) hx hb dJ1_indexOfChar_4cfef_10 (by decide) (fun c24 => absurd c24 (by decide)) (fun c24 => ?_)
                refine lv_aload_n hx hb dJ1_indexOfChar_4cfef_13 rfl (lv_at hl23 2 rfl) ?_
                refine lv_iload hx hb dJ1_indexOfChar_4cfef_14 (lv_at hl23 0 rfl) ?_
                refine va_tb (v := .int 111) hx hb h2 hS (vp_in_nI (n := 7) (N := 10) (by decide) (by decide)) rfl dJ1_indexOfChar_4cfef_16 ?_
                refine lv_iload hx hb dJ1_indexOfChar_4cfef_17 (lv_at hl23 1 rfl) ?_
                refine lv_icmp_ne (tgt := 25) hx hb dJ1_indexOfChar_4cfef_19 (by decide) (fun c25 => ?_) (fun c25 => ?_)
                · skip
                  refine lv_iinc (k := 0) (v := 8) (lv' := [(5, .int 8), (4, .int ((ch).toInt8.toInt32)), (0, .ref aV), (1, .int ch), (2, .int 0), (3, .int 10)]) hx hb dJ1_indexOfChar_4cfef_25 hl23 rfl (by decide) (Nat.le_of_ble_eq_true rfl) rfl (fun ls26 hl26 => ?_)
                  refine lv_goto (tgt := 7) hx hb dJ1_indexOfChar_4cfef_28 (by decide) ?_
                  refine lv_iload hx hb dJ1_indexOfChar_4cfef_7 (lv_at hl26 0 rfl) ?_
                  refine lv_iload_n hx hb dJ1_indexOfChar_4cfef_9 rfl (lv_at hl26 5 rfl) ?_
                  refine lv_icmp_ge (tgt := 31) hx hb dJ1_indexOfChar_4cfef_10 (by decide) (fun c27 => absurd c27 (by decide)) (fun c27 => ?_)
                  refine lv_aload_n hx hb dJ1_indexOfChar_4cfef_13 rfl (lv_at hl26 2 rfl) ?_
                  refine lv_iload hx hb dJ1_indexOfChar_4cfef_14 (lv_at hl26 0 rfl) ?_
                  refine va_tb (v := .int 116) hx hb h2 hS (vp_in_nI (n := 8) (N := 10) (by decide) (by decide)) rfl dJ1_indexOfChar_4cfef_16 ?_
                  refine lv_iload hx hb dJ1_indexOfChar_4cfef_17 (lv_at hl26 1 rfl) ?_
                  refine lv_icmp_ne (tgt := 25) hx hb dJ1_indexOfChar_4cfef_19 (by decide) (fun c28 => ?_) (fun c28 => ?_)
                  · skip
                    refine lv_iinc (k := 0) (v := 9) (lv' := [(5, .int 9), (4, .int ((ch).toInt8.toInt32)), (0, .ref aV), (1, .int ch), (2, .int 0), (3, .int 10)]) hx hb dJ1_indexOfChar_4cfef_25 hl26 rfl (by decide) (Nat.le_of_ble_eq_true rfl) rfl (fun ls29 hl29 => ?_)
                    refine lv_goto (tgt := 7) hx hb dJ1_indexOfChar_4cfef_28 (by decide) ?_
                    refine lv_iload hx hb dJ1_indexOfChar_4cfef_7 (lv_at hl29 0 rfl) ?_
                    refine lv_iload_n hx hb dJ1_indexOfChar_4cfef_9 rfl (lv_at hl29 5 rfl) ?_
                    refine lv_icmp_ge (tgt := 31) hx hb dJ1_indexOfChar_4cfef_10 (by decide) (fun c30 => absurd c30 (by decide)) (fun c30 => ?_)
                    refine lv_aload_n hx hb dJ1_indexOfChar_4cfef_13 rfl (lv_at hl29 2 rfl) ?_
                    refine lv_iload hx hb dJ1_indexOfChar_4cfef_14 (lv_at hl29 0 rfl) ?_
                    refine va_tb (v := .int 119) hx hb h2 hS (vp_in_nI (n := 9) (N := 10) (by decide) (by decide)) rfl dJ1_indexOfChar_4cfef_16 ?_
                    refine lv_iload hx hb dJ1_indexOfChar_4cfef_17 (lv_at hl29 1 rfl) ?_
                    refine lv_icmp_ne (tgt := 25) hx hb dJ1_indexOfChar_4cfef_19 (by decide) (fun c31 => ?_) (fun c31 => ?_)
                    · skip
                      refine lv_iinc (k := 0) (v := 10) (lv' := [(5, .int 10), (4, .int ((ch).toInt8.toInt32)), (0, .ref aV), (1, .int ch), (2, .int 0), (3, .int 10)]) hx hb dJ1_indexOfChar_4cfef_25 hl29 rfl (by decide) (Nat.le_of_ble_eq_true rfl) rfl (fun ls32 hl32 => ?_)
                      refine lv_goto (tgt := 7) hx hb dJ1_indexOfChar_4cfef_28 (by decide) ?_
                      refine lv_iload hx hb dJ1_indexOfChar_4cfef_7 (lv_at hl32 0 rfl) ?_
                      refine lv_iload_n hx hb dJ1_indexOfChar_4cfef_9 rfl (lv_at hl32 5 rfl) ?_
                      refine lv_icmp_ge (tgt := 31) hx hb dJ1_indexOfChar_4cfef_10 (by decide) (fun c33 => ?_) (fun c33 => absurd (by decide) c33)
                      refine lv_iconst (v := (-1)) hx hb dJ1_indexOfChar_4cfef_31 (by decide) ?_
                      exact W.iret hx hb hr (fun t ht hW => ⟨_, rfl, trivial, ht⟩) (fun q hq => by cases hq) dJ1_indexOfChar_4cfef_32 hlocks
                    · skip
                      refine lv_iload hx hb dJ1_indexOfChar_4cfef_22 (lv_at hl29 0 rfl) ?_
                      exact W.iret hx hb hr (fun t ht hW => ⟨_, rfl, trivial, ht⟩) (fun q hq => by cases hq) dJ1_indexOfChar_4cfef_24 hlocks
                  · skip
                    refine lv_iload hx hb dJ1_indexOfChar_4cfef_22 (lv_at hl26 0 rfl) ?_
                    exact W.iret hx hb hr (fun t ht hW => ⟨_, rfl, trivial, ht⟩) (fun q hq => by cases hq) dJ1_indexOfChar_4cfef_24 hlocks
                · skip
                  refine lv_iload hx hb dJ1_indexOfChar_4cfef_22 (lv_at hl23 0 rfl) ?_
                  exact W.iret hx hb hr (fun t ht hW => ⟨_, rfl, trivial, ht⟩) (fun q hq => by cases hq) dJ1_indexOfChar_4cfef_24 hlocks
              · skip
                refine lv_iload hx hb dJ1_indexOfChar_4cfef_22 (lv_at hl20 0 rfl) ?_
                exact W.iret hx hb hr (fun t ht hW => ⟨_, rfl, trivial, ht⟩) (fun q hq => by cases hq) dJ1_indexOfChar_4cfef_24 hlocks
            · skip
              refine lv_iload hx hb dJ1_indexOfChar_4cfef_22 (lv_at hl17 0 rfl) ?_
              exact W.iret hx hb hr (fun t ht hW => ⟨_, rfl, trivial, ht⟩) (fun q hq => by cases hq) dJ1_indexOfChar_4cfef_24 hlocks
          · skip
            refine lv_iload hx hb dJ1_indexOfChar_4cfef_22 (lv_at hl14 0 rfl) ?_
            exact W.iret hx hb hr (fun t ht hW => ⟨_, rfl, trivial, ht⟩) (fun q hq => by cases hq) dJ1_indexOfChar_4cfef_24 hlocks
        · skip
          refine lv_iload hx hb dJ1_indexOfChar_4cfef_22 (lv_at hl11 0 rfl) ?_
          exact W.iret hx hb hr (fun t ht hW => ⟨_, rfl, trivial, ht⟩) (fun q hq => by cases hq) dJ1_indexOfChar_4cfef_24 hlocks
      · skip
        refine lv_iload hx hb dJ1_indexOfChar_4cfef_22 (lv_at hl8 0 rfl) ?_
        exact W.iret hx hb hr (fun t ht hW => ⟨_, rfl, trivial, ht⟩) (fun q hq => by cases hq) dJ1_indexOfChar_4cfef_24 hlocks
    · skip
      refine lv_iload hx hb dJ1_indexOfChar_4cfef_22 (lv_at hl5 0 rfl) ?_
      exact W.iret hx hb hr (fun t ht hW => ⟨_, rfl, trivial, ht⟩) (fun q hq => by cases hq) dJ1_indexOfChar_4cfef_24 hlocks
  · skip
    refine lv_iload hx hb dJ1_indexOfChar_4cfef_22 (lv_at hl2 0 rfl) ?_
    exact W.iret hx hb hr (fun t ht hW => ⟨_, rfl, trivial, ht⟩) (fun q hq => by cases hq) dJ1_indexOfChar_4cfef_24 hlocks

set_option maxHeartbeats 4000000 in
set_option maxRecDepth 100000 in
theorem ix_indexOf4 (l : Launch) (b aK aV : Nat) (ch : Int32) : Met l jJ1_indexOf_4cfef.1 (fx_ws jJ1_indexOf_4cfef) (fx_rm 1 0 0) (va_Pc [.ref aV, .int ch, .int 0, .int 10] (fx_SL b aK aV)) (vp_Si (fun r => True)) 0 0 (fun _ => False) := by
  refine Met.ofW (cc := jJ1_indexOf_4cfef.2.1) (maxL := 4) (ret := some .int) (by decide) rfl ?_
  intro p e s m args below meth c s₁ B hml hv
  obtain ⟨rfl, hSL⟩ := hv
  obtain ⟨h0, h1, h2, h3⟩ := id hSL
  have hx := B.exec
  have hb := B.bytes
  have hr := B.returns
  have hts := atoms_spec (ws := fx_ws jJ1_indexOf_4cfef) B.pre
  have hown : s.vm.findClass "java/lang/StringLatin1" = some m.cls := findClass_of_methodNamed B.named
  have hlocks := B.notSynchronized
  have hS : va_S (fun q => b ≤ q) s.heap s.heap [] := va_S.rf
  have hl := lv_entry ([.ref aV, .int ch, .int 0, .int 10]) (n := 4) (Nat.le_of_ble_eq_true rfl)
  rw [lg_entry_eq]
  generalize (lg_sl ([.ref aV, .int ch, .int 0, .int 10]) ++ List.replicate (4 - (lg_sl ([.ref aV, .int ch, .int 0, .int 10])).length) Slot.unset).toArray = ls0 at hl ⊢
  have hl0 : lv_has ls0 4 [(0, .ref aV), (1, .int ch), (2, .int 0), (3, .int 10)] := hl
  refine lv_iload_n hx hb dJ1_indexOf_4cfef_0 rfl (lv_at hl0 1 rfl) ?_
  refine vp_callSi (W.runS (As := [.int ch]) (rest := []) ⟨hx, hb, hml, hown, hts⟩ (ix_canEncode l b aK aV ch) ⟨callB_of 1 hts (fx_goodIn (J' := jJ1_canEncode_9a6ad) (xs := []) tb_438 (fun w hw => by cases hw)) rfl rfl rfl (hts _ (List.mem_cons_of_mem _ tb_14)) (hts _ (List.mem_cons_of_mem _ tb_436)) ⟨by decide +kernel, by decide +kernel, by decide +kernel⟩ ⟨Nat.le_of_ble_eq_true rfl, Nat.le_of_ble_eq_true rfl⟩, hts _ (List.mem_cons_of_mem _ tb_437)⟩ ⟨fun a U g mk q => ⟨q.1, q.2.same (u := U) (U := U.calling g mk a) (Vm.Alike.refl U.vm) rfl⟩, fun U hU hW => ⟨rfl, fx_SL.to (s := s) hSL hW.alike (by rw [hU]; exact hS)⟩⟩ rfl rfl hl0.1 rfl (lv_room (Nat.le_of_ble_eq_true rfl)) dJ1_indexOf_4cfef_1 ⟨Nat.le_of_ble_eq_true rfl, Nat.le_of_ble_eq_true rfl⟩) (fun r1 hr1 => ?_)
  refine lv_if_ne (tgt := 9) hx hb dJ1_indexOf_4cfef_4 (by decide) (fun c2 => ?_) (fun c2 => ?_)
  · skip
    refine lv_iload_n hx hb dJ1_indexOf_4cfef_9 rfl (lv_at hl0 2 rfl) ?_
    refine lv_iconst (v := 0) hx hb dJ1_indexOf_4cfef_10 (by decide) ?_
    refine va_mmax hx hb (by rw [hml]; exact hl0.1.symm) hown (hts _ (List.mem_cons_of_mem _ tb_439)) (hts _ (List.mem_cons_of_mem _ tb_385)) (hts _ (List.mem_cons_of_mem _ tb_13)) (hts _ (List.mem_cons_of_mem _ tb_386)) (Nat.le_of_ble_eq_true rfl) (Nat.le_of_ble_eq_true rfl) (Nat.le_of_ble_eq_true rfl) (Nat.le_of_ble_eq_true rfl) dJ1_indexOf_4cfef_11 ?_
    rw [if_neg (by decide)]
    refine lv_istore_n (lv' := [(2, .int 0), (0, .ref aV), (1, .int ch), (3, .int 10)]) hx hb dJ1_indexOf_4cfef_14 rfl hl0 (Nat.le_of_ble_eq_true rfl) rfl (fun ls3 hl3 => ?_)
    refine lv_iload_n hx hb dJ1_indexOf_4cfef_15 rfl (lv_at hl3 3 rfl) ?_
    refine lv_aload_n hx hb dJ1_indexOf_4cfef_16 rfl (lv_at hl3 1 rfl) ?_
    refine va_tlen (v := 10) hx hb h2 hS rfl dJ1_indexOf_4cfef_17 ?_
    refine va_mmin hx hb (by rw [hml]; exact hl3.1.symm) hown (hts _ (List.mem_cons_of_mem _ tb_440)) (hts _ (List.mem_cons_of_mem _ tb_382)) (hts _ (List.mem_cons_of_mem _ tb_13)) (hts _ (List.mem_cons_of_mem _ tb_383)) (Nat.le_of_ble_eq_true rfl) (Nat.le_of_ble_eq_true rfl) (Nat.le_of_ble_eq_true rfl) (Nat.le_of_ble_eq_true rfl) dJ1_indexOf_4cfef_18 ?_
    rw [if_neg (by decide)]
    refine lv_istore_n (lv' := [(3, .int 10), (2, .int 0), (0, .ref aV), (1, .int ch)]) hx hb dJ1_indexOf_4cfef_21 rfl hl3 (Nat.le_of_ble_eq_true rfl) rfl (fun ls4 hl4 => ?_)
    refine lv_iload_n hx hb dJ1_indexOf_4cfef_22 rfl (lv_at hl4 1 rfl) ?_
    refine lv_iload_n hx hb dJ1_indexOf_4cfef_23 rfl (lv_at hl4 0 rfl) ?_
    refine lv_icmp_lt (tgt := 29) hx hb dJ1_indexOf_4cfef_24 (by decide) (fun c5 => ?_) (fun c5 => absurd (by decide) c5)
    refine lv_aload_n hx hb dJ1_indexOf_4cfef_29 rfl (lv_at hl4 2 rfl) ?_
    refine lv_iload_n hx hb dJ1_indexOf_4cfef_30 rfl (lv_at hl4 3 rfl) ?_
    refine lv_iload_n hx hb dJ1_indexOf_4cfef_31 rfl (lv_at hl4 1 rfl) ?_
    refine lv_iload_n hx hb dJ1_indexOf_4cfef_32 rfl (lv_at hl4 0 rfl) ?_
    refine vp_callSi (W.runS (As := [.ref aV, .int ch, .int 0, .int 10]) (rest := []) ⟨hx, hb, hml, hown, hts⟩ (ix_indexOfChar l b aK aV ch) ⟨callB_of 4 hts (fx_goodIn (J' := jJ1_indexOfChar_4cfef) (xs := []) tb_443 (fun w hw => by cases hw)) rfl rfl rfl (hts _ (List.mem_cons_of_mem _ tb_14)) (hts _ (List.mem_cons_of_mem _ tb_441)) ⟨by decide +kernel, by decide +kernel, by decide +kernel⟩ ⟨Nat.le_of_ble_eq_true rfl, Nat.le_of_ble_eq_true rfl⟩, hts _ (List.mem_cons_of_mem _ tb_442)⟩ ⟨fun a U g mk q => ⟨q.1, q.2.same (u := U) (U := U.calling g mk a) (Vm.Alike.refl U.vm) rfl⟩, fun U hU hW => ⟨rfl, fx_SL.to (s := s) hSL hW.alike (by rw [hU]; exact hS)⟩⟩ rfl rfl hl4.1 rfl (lv_room (Nat.le_of_ble_eq_true rfl)) dJ1_indexOf_4cfef_33 ⟨Nat.le_of_ble_eq_true rfl, Nat.le_of_ble_eq_true rfl⟩) (fun r6 hr6 => ?_)
    exact W.iret hx hb hr (fun t ht hW => ⟨_, rfl, trivial, ht⟩) (fun q hq => by cases hq) dJ1_indexOf_4cfef_36 hlocks
  · skip
    refine lv_iconst (v := (-1)) hx hb dJ1_indexOf_4cfef_7 (by decide) ?_
    exact W.iret hx hb hr (fun t ht hW => ⟨_, rfl, trivial, ht⟩) (fun q hq => by cases hq) dJ1_indexOf_4cfef_8 hlocks

set_option maxHeartbeats 4000000 in
set_option maxRecDepth 100000 in
theorem ix_isLatin1 (l : Launch) (b aK aV : Nat)  : Met l jJ0_isLatin1_aae02.1 (fx_ws jJ0_isLatin1_aae02) (fx_rm 0 0 0) (va_Pc [.ref aK] (fx_SL b aK aV)) (vp_Si (fun r => r = 1)) 0 0 (fun _ => False) := by
  refine Met.ofW (cc := jJ0_isLatin1_aae02.2.1) (maxL := 1) (ret := some .boolean) (by decide) rfl ?_
  intro p e s m args below meth c s₁ B hml hv
  obtain ⟨rfl, hSL⟩ := hv
  obtain ⟨h0, h1, h2, h3⟩ := id hSL
  have hx := B.exec
  have hb := B.bytes
  have hr := B.returns
  have hts := atoms_spec (ws := fx_ws jJ0_isLatin1_aae02) B.pre
  have hown : s.vm.findClass "java/lang/String" = some m.cls := findClass_of_methodNamed B.named
  have hlocks := B.notSynchronized
  have hS : va_S (fun q => b ≤ q) s.heap s.heap [] := va_S.rf
  have hl := lv_entry ([.ref aK]) (n := 1) (Nat.le_of_ble_eq_true rfl)
  rw [lg_entry_eq]
  generalize (lg_sl ([.ref aK]) ++ List.replicate (1 - (lg_sl ([.ref aK])).length) Slot.unset).toArray = ls0 at hl ⊢
  have hl0 : lv_has ls0 1 [(0, .ref aK)] := hl
  refine va_gets hx hb h3.2 hS hown (hts _ (List.mem_cons_of_mem _ tb_129)) (fun x hx => hx) dJ0_isLatin1_aae02_0 ?_
  refine lv_if_eq (tgt := 17) hx hb dJ0_isLatin1_aae02_3 (by decide) (fun c1 => absurd c1 (by decide)) (fun c1 => ?_)
  refine lv_aload_n hx hb dJ0_isLatin1_aae02_6 rfl (lv_at hl0 0 rfl) ?_
  refine vk_getf hx hb h3.1 hS hown (hts _ (List.mem_cons_of_mem _ tb_1630)) (fun x hx => hx) dJ0_isLatin1_aae02_7 ?_
  refine lv_if_ne (tgt := 17) hx hb dJ0_isLatin1_aae02_10 (by decide) (fun c2 => absurd rfl c2) (fun c2 => ?_)
  refine lv_iconst (v := 1) hx hb dJ0_isLatin1_aae02_13 (by decide) ?_
  refine lv_goto (tgt := 18) hx hb dJ0_isLatin1_aae02_14 (by decide) ?_
  exact W.zret (ty := .boolean) hx hb hr (by rfl) (fun t ht hW => ⟨_, rfl, rfl, ht⟩) (fun q hq => by cases hq) dJ0_isLatin1_aae02_18 hlocks

set_option maxHeartbeats 4000000 in
set_option maxRecDepth 100000 in
theorem ix_indexOf2 (l : Launch) (b aK aV : Nat) (ch : Int32) : Met l jJ0_indexOf_7cf53.1 (fx_ws jJ0_indexOf_7cf53) (fx_rm 2 0 0) (va_Pc [.ref aK, .int ch, .int 0] (fx_SL b aK aV)) (vp_Si (fun r => True)) 0 0 (fun _ => False) := by
  refine Met.ofW (cc := jJ0_indexOf_7cf53.2.1) (maxL := 3) (ret := some .int) (by decide) rfl ?_
  intro p e s m args below meth c s₁ B hml hv
  obtain ⟨rfl, hSL⟩ := hv
  obtain ⟨h0, h1, h2, h3⟩ := id hSL
  have hx := B.exec
  have hb := B.bytes
  have hr := B.returns
  have hts := atoms_spec (ws := fx_ws jJ0_indexOf_7cf53) B.pre
  have hown : s.vm.findClass "java/lang/String" = some m.cls := findClass_of_methodNamed B.named
  have hlocks := B.notSynchronized
  have hS : va_S (fun q => b ≤ q) s.heap s.heap [] := va_S.rf
  have hl := lv_entry ([.ref aK, .int ch, .int 0]) (n := 3) (Nat.le_of_ble_eq_true rfl)
  rw [lg_entry_eq]
  generalize (lg_sl ([.ref aK, .int ch, .int 0]) ++ List.replicate (3 - (lg_sl ([.ref aK, .int ch, .int 0])).length) Slot.unset).toArray = ls0 at hl ⊢
  have hl0 : lv_has ls0 3 [(0, .ref aK), (1, .int ch), (2, .int 0)] := hl
  refine lv_aload_n hx hb dJ0_indexOf_7cf53_0 rfl (lv_at hl0 0 rfl) ?_
  have hT1 : GoodIn (fx_ws jJ0_indexOf_7cf53) (wsV "java/lang/String" 492 "java/lang/String" jJ0_isLatin1_aae02.1 (fx_ws jJ0_isLatin1_aae02)) := fx_goodIn (J' := jJ0_isLatin1_aae02) tb_431 (fun w hw => by
    simp only [List.mem_cons, List.not_mem_nil, or_false] at hw
    rcases hw with rfl | rfl | rfl | rfl
    · exact tb_428
    · exact tb_429
    · exact tb_430
    · exact tb_5
  )
  obtain ⟨cell1, g11, g21, g31, -⟩ := id h0
  refine vp_callSi (W.runV (C := "java/lang/String") (As := []) (rest := []) ⟨hx, hb, hml, hown, hts⟩ (ix_isLatin1 l b aK aV ) (cwV 0 hts hT1 rfl rfl rfl ⟨rfl, by decide +kernel, by decide +kernel, by decide +kernel⟩ ⟨Nat.le_of_ble_eq_true rfl, Nat.le_of_ble_eq_true rfl⟩) ⟨fun a U g mk q => ⟨q.1, q.2.same (u := U) (U := U.calling g mk a) (Vm.Alike.refl U.vm) rfl⟩, ⟨cell1, g11, g21, g31⟩, fun U hU hW => ⟨rfl, fx_SL.to (s := s) hSL hW.alike (by rw [hU]; exact hS)⟩⟩ rfl rfl hl0.1 rfl (lv_room (Nat.le_of_ble_eq_true rfl)) dJ0_indexOf_7cf53_1 ⟨Nat.le_of_ble_eq_true rfl, Nat.le_of_ble_eq_true rfl⟩) (fun r2 hr2 => ?_)
  subst hr2
  refine lv_if_eq (tgt := 23) hx hb dJ0_indexOf_7cf53_4 (by decide) (fun c3 => absurd c3 (by decide)) (fun c3 => ?_)
  refine lv_aload_n hx hb dJ0_indexOf_7cf53_7 rfl (lv_at hl0 0 rfl) ?_
  refine vk_getf hx hb h1 hS hown (hts _ (List.mem_cons_of_mem _ tb_1629)) (fun x hx => hx) dJ0_indexOf_7cf53_8 ?_
  refine lv_iload_n hx hb dJ0_indexOf_7cf53_11 rfl (lv_at hl0 1 rfl) ?_
  refine lv_iload_n hx hb dJ0_indexOf_7cf53_12 rfl (lv_at hl0 2 rfl) ?_
  refine lv_aload_n hx hb dJ0_indexOf_7cf53_13 rfl (lv_at hl0 0 rfl) ?_
  have hT4 : GoodIn (fx_ws jJ0_indexOf_7cf53) (wsV "java/lang/String" 505 "java/lang/String" fx_jL.1 (fx_ws fx_jL)) := fx_goodIn (J' := fx_jL) tb_124 (fun w hw => by
    simp only [List.mem_cons, List.not_mem_nil, or_false] at hw
    rcases hw with rfl | rfl | rfl | rfl
    · exact tb_432
    · exact tb_122
    · exact tb_123
    · exact tb_5
  )
  obtain ⟨cell4, g14, g24, g34, -⟩ := id h0
  refine vp_callSi (W.runV (C := "java/lang/String") (As := []) (rest := [.int 0, .int ch, .ref aV]) ⟨hx, hb, hml, hown, hts⟩ (fx_length l b aK aV) (cwV 0 hts hT4 rfl rfl rfl ⟨rfl, by decide +kernel, by decide +kernel, by decide +kernel⟩ ⟨Nat.le_of_ble_eq_true rfl, Nat.le_of_ble_eq_true rfl⟩) ⟨fun a U g mk q => ⟨q.1, q.2.same (u := U) (U := U.calling g mk a) (Vm.Alike.refl U.vm) rfl⟩, ⟨cell4, g14, g24, g34⟩, fun U hU hW => ⟨rfl, fx_SL.to (s := s) hSL hW.alike (by rw [hU]; exact hS)⟩⟩ rfl rfl hl0.1 rfl (lv_room (Nat.le_of_ble_eq_true rfl)) dJ0_indexOf_7cf53_14 ⟨Nat.le_of_ble_eq_true rfl, Nat.le_of_ble_eq_true rfl⟩) (fun r5 hr5 => ?_)
  subst hr5
  refine vp_callSi (W.runS (As := [.ref aV, .int ch, .int 0, .int 10]) (rest := []) ⟨hx, hb, hml, hown, hts⟩ (ix_indexOf4 l b aK aV ch) ⟨callB_of 4 hts (fx_goodIn (J' := jJ1_indexOf_4cfef) (xs := []) tb_435 (fun w hw => by cases hw)) rfl rfl rfl (hts _ (List.mem_cons_of_mem _ tb_14)) (hts _ (List.mem_cons_of_mem _ tb_433)) ⟨by decide +kernel, by decide +kernel, by decide +kernel⟩ ⟨Nat.le_of_ble_eq_true rfl, Nat.le_of_ble_eq_true rfl⟩, hts _ (List.mem_cons_of_mem _ tb_434)⟩ ⟨fun a U g mk q => ⟨q.1, q.2.same (u := U) (U := U.calling g mk a) (Vm.Alike.refl U.vm) rfl⟩, fun U hU hW => ⟨rfl, fx_SL.to (s := s) hSL hW.alike (by rw [hU]; exact hS)⟩⟩ rfl rfl hl0.1 rfl (lv_room (Nat.le_of_ble_eq_true rfl)) dJ0_indexOf_7cf53_17 ⟨Nat.le_of_ble_eq_true rfl, Nat.le_of_ble_eq_true rfl⟩) (fun r6 hr6 => ?_)
  refine lv_goto (tgt := 36) hx hb dJ0_indexOf_7cf53_20 (by decide) ?_
  exact W.iret hx hb hr (fun t ht hW => ⟨_, rfl, trivial, ht⟩) (fun q hq => by cases hq) dJ0_indexOf_7cf53_36 hlocks

set_option maxHeartbeats 4000000 in
set_option maxRecDepth 100000 in
theorem ix_indexOf1 (l : Launch) (b aK aV : Nat) (ch : Int32) : Met l jJ0_indexOf_0f7a4.1 (fx_ws jJ0_indexOf_0f7a4) (fx_rm 3 0 0) (va_Pc [.ref aK, .int ch] (fx_SL b aK aV)) (vp_Si (fun r => True)) 0 0 (fun _ => False) := by
  refine Met.ofW (cc := jJ0_indexOf_0f7a4.2.1) (maxL := 2) (ret := some .int) (by decide) rfl ?_
  intro p e s m args below meth c s₁ B hml hv
  obtain ⟨rfl, hSL⟩ := hv
  obtain ⟨h0, h1, h2, h3⟩ := id hSL
  have hx := B.exec
  have hb := B.bytes
  have hr := B.returns
  have hts := atoms_spec (ws := fx_ws jJ0_indexOf_0f7a4) B.pre
  have hown : s.vm.findClass "java/lang/String" = some m.cls := findClass_of_methodNamed B.named
  have hlocks := B.notSynchronized
  have hS : va_S (fun q => b ≤ q) s.heap s.heap [] := va_S.rf
  have hl := lv_entry ([.ref aK, .int ch]) (n := 2) (Nat.le_of_ble_eq_true rfl)
  rw [lg_entry_eq]
  generalize (lg_sl ([.ref aK, .int ch]) ++ List.replicate (2 - (lg_sl ([.ref aK, .int ch])).length) Slot.unset).toArray = ls0 at hl ⊢
  have hl0 : lv_has ls0 2 [(0, .ref aK), (1, .int ch)] := hl
  refine lv_aload_n hx hb dJ0_indexOf_0f7a4_0 rfl (lv_at hl0 0 rfl) ?_
  refine lv_iload_n hx hb dJ0_indexOf_0f7a4_1 rfl (lv_at hl0 1 rfl) ?_
  refine lv_iconst (v := 0) hx hb dJ0_indexOf_0f7a4_2 (by decide) ?_
  have hT1 : GoodIn (fx_ws jJ0_indexOf_0f7a4) (wsV "java/lang/String" 633 "java/lang/String" jJ0_indexOf_7cf53.1 (fx_ws jJ0_indexOf_7cf53)) := fx_goodIn (J' := jJ0_indexOf_7cf53) tb_427 (fun w hw => by
    simp only [List.mem_cons, List.not_mem_nil, or_false] at hw
    rcases hw with rfl | rfl | rfl | rfl
    · exact tb_424
    · exact tb_425
    · exact tb_426
    · exact tb_5
  )
  obtain ⟨cell1, g11, g21, g31, -⟩ := id h0
  refine vp_callSi (W.runV (C := "java/lang/String") (As := [.int ch, .int 0]) (rest := []) ⟨hx, hb, hml, hown, hts⟩ (ix_indexOf2 l b aK aV ch) (cwV 2 hts hT1 rfl rfl rfl ⟨rfl, by decide +kernel, by decide +kernel, by decide +kernel⟩ ⟨Nat.le_of_ble_eq_true rfl, Nat.le_of_ble_eq_true rfl⟩) ⟨fun a U g mk q => ⟨q.1, q.2.same (u := U) (U := U.calling g mk a) (Vm.Alike.refl U.vm) rfl⟩, ⟨cell1, g11, g21, g31⟩, fun U hU hW => ⟨rfl, fx_SL.to (s := s) hSL hW.alike (by rw [hU]; exact hS)⟩⟩ rfl rfl hl0.1 rfl (lv_room (Nat.le_of_ble_eq_true rfl)) dJ0_indexOf_0f7a4_3 ⟨Nat.le_of_ble_eq_true rfl, Nat.le_of_ble_eq_true rfl⟩) (fun r2 hr2 => ?_)
  exact W.iret hx hb hr (fun t ht hW => ⟨_, rfl, trivial, ht⟩) (fun q hq => by cases hq) dJ0_indexOf_0f7a4_6 hlocks

set_option maxHeartbeats 4000000 in
/-- "kdfvgmnotw".indexOf(ch), the ldc and the call in one; iload and i2c stand between -/
theorem aw_strIdx {l : Launch} {D : va_G} {b : Nat} {J : Md} {R : Room} {X : Sc} {FQ : Array Value → List Frame → State → State → Prop} {pc i : Nat} {k9 : Fin 4} {x : Int32} {ls : List (Option Value)} {st : List Value} {N : Nat} {V : Wd} {k n : Nat} (hJ : J.1.cls = RX5) (hd1 : decode J.2.1 pc = .ok (.ldc 101, 2)) (hd2 : decode J.2.1 (pc + 2) = .ok (.iload_n k9, 1)) (hd3 : decode J.2.1 (pc + 2 + 1) = .ok (.i2c, 1)) (hd4 : decode J.2.1 (pc + 2 + 1 + 1) = .ok (.invokevirtual 103, 3)) (hi : (k9 : Nat) = i) (hl9 : ls[i]? = some (some (.int x))) (hW : (st.map fun v => v.category).sum ≤ 8) (hR : 5 ≤ R.frames ∧ 21 + 64 * 4 ≤ R.locals ∧ k ≤ R.cells ∧ n ≤ R.slots) (h : ∀ r : Int32, AW l D b J R X FQ (pc + 2 + 1 + 1 + 3) ls (.int r :: st) N V k n) : AW l D b J R X FQ pc ls st N V k n := by
  intro p e s m args below meth c H locs arr hC hL hA hS
  obtain ⟨hx, hb, hr, hml, hown, hts, hlk, hnm, hK, hsz, hX, hNS, aK, aV, e1, e2, e3, e4, e5, e6, e7⟩ := id hC
  have hown' : s.vm.findClass RX5 = some m.cls := hJ ▸ hown
  refine va_ldcS hx hb hown' e7 hd1 ?_
  refine lv_iload_n hx hb hd2 hi (hL.2.2 _ _ hl9) ?_
  refine lv_i2c hx hb hd3 rfl ?_
  have hT : GoodIn (fx_ws J) (wsV RX5 103 "java/lang/String" jJ0_indexOf_0f7a4.1 (fx_ws jJ0_indexOf_0f7a4)) := fx_goodIn (J' := jJ0_indexOf_0f7a4) tb_423 (fun w hw => by
    simp only [List.mem_cons, List.not_mem_nil, or_false] at hw
    rcases hw with rfl | rfl | rfl | rfl
    · exact tb_420
    · exact tb_421
    · exact tb_422
    · exact tb_5)
  obtain ⟨cell, g1, g2, g3, -⟩ := e2.kept hS.2.1
  refine vp_callSi (W.runV (C := "java/lang/String") (As := [.int _]) (rest := st) ⟨hx, hb, hml, hown', hts⟩ (ix_indexOf1 l b aK aV _) (cwV 1 hts hT rfl rfl rfl ⟨rfl, by decide +kernel, by decide +kernel, by decide +kernel⟩ ⟨hR.1, hR.2.1⟩) ⟨fun a U g mk q => ⟨q.1, q.2.same (u := U) (U := U.calling g mk a) (Vm.Alike.refl U.vm) rfl⟩, ⟨cell, g1, g2, g3⟩, fun U hU hW9 => ⟨rfl, fx_SL.to (s := s) ⟨e2, e4, e5, e3, e6⟩ hW9.alike (by rw [hU]; exact hS)⟩⟩ rfl rfl hL.1 rfl (lv_room hW) hd4 ⟨hR.2.2.1, hR.2.2.2⟩) (fun r hr9 => ?_)
  exact h r p e s m args below meth c H locs arr hC hL hA hS
