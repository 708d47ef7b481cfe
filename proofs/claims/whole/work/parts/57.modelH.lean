set_option maxHeartbeats 4000000 in
set_option maxRecDepth 100000 in
theorem c_X5_notCopied (l : Launch) (G : Geo) (u : Sg) (hsz : ∀ j : Nat, j < 4 → ∃ z : Nat, z ≤ 40 ∧ u.1 18 j = nI z) (s a t b n : Int32) : CtI l G yX5_notCopied wsX5_notCopied (rmO 2 43) [.ref (gad G 34), .int s, .int a, .int t, .int b, .int n] u (fun r v => r = f_copy s a t b n (moB u) ∧ v = u) := by
  refine CtI.of (cc := cX5_notCopied) (maxL := 7) (ret := (some .int)) (own := RX5) (by decide) rfl rfl ?_
  rintro pg ev s0 mm below meth cd ⟨hx, hb, hr, hml, hown, hts, hlocks⟩ hE hP ls hl
  have hS : va_S (gA G) s0.heap s0.heap [] := va_S.rf
  have hl : lv_has ls 7 [(0, .ref (gad G 34)), (1, .int s), (2, .int a), (3, .int t), (4, .int b), (5, .int n)] := hl
  have hin5 : ∀ w ∈ wsX50, w ∈ wsX5_notCopied := by decide +kernel
  refine lv_iload_n hx hb dX5_notCopied_0 rfl (lv_at hl 1 rfl) ?_
  refine hd_callSi (As := [.int s]) (rest := []) ⟨hx, hb, hml, hown, hts⟩ hE hP hS (c_X5_isSheet l G u s) rfl (va_cwS 1 hts gX5_notCopied_X5_isSheet rfl rfl rfl (by decide +kernel) ⟨Nat.le_of_ble_eq_true rfl, Nat.le_of_ble_eq_true rfl⟩) rfl hl.1 rfl (Nat.le_of_ble_eq_true rfl) dX5_notCopied_1 (fun rq_1 vq_1 H locs q_1 hP hS => ?_)
  have hP := hP.cast (q_1.2)
  refine lv_cast q_1.1 ?_
  refine bo_eq (tgt := 14) hx hb dX5_notCopied_4 (by decide) (fun c_2 => ?_) (fun c_2 => ?_)
  · skip
    refine lv_ldc (v := (-1000000001)) hx hb hown (hts (.constant RX5 35 ((-1000000001))) (by decide +kernel)) dX5_notCopied_14 ?_
    exact hd_iret hx hb hr hlocks hP hS ⟨(by simp [f_copy, mis, moB, c_2]), rfl⟩ dX5_notCopied_16
  · skip
    obtain ⟨j9, hj9a, hj9b, rfl⟩ := inI_nat c_2 rfl rfl (na := 0) (nb := 3) (by decide) (by decide)
    refine lv_iload_n hx hb dX5_notCopied_7 rfl (lv_at hl 3 rfl) ?_
    refine hd_callSi (As := [.int t]) (rest := []) ⟨hx, hb, hml, hown, hts⟩ hE hP hS (c_X5_isSheet l G u t) rfl (va_cwS 1 hts gX5_notCopied_X5_isSheet rfl rfl rfl (by decide +kernel) ⟨Nat.le_of_ble_eq_true rfl, Nat.le_of_ble_eq_true rfl⟩) rfl hl.1 rfl (Nat.le_of_ble_eq_true rfl) dX5_notCopied_8 (fun rq_3 vq_3 H locs q_3 hP hS => ?_)
    have hP := hP.cast (q_3.2)
    refine lv_cast q_3.1 ?_
    refine bo_ne (tgt := 17) hx hb dX5_notCopied_11 (by decide) (fun c_4 => ?_) (fun c_4 => ?_)
    · skip
      obtain ⟨i9, hi9a, hi9b, rfl⟩ := inI_nat c_4 rfl rfl (na := 0) (nb := 3) (by decide) (by decide)
      obtain ⟨z9, hz9, hz8⟩ := hsz j9 (by omega)
      obtain ⟨z7, hz7, hz6⟩ := hsz i9 (by omega)
      refine lv_aload_n hx hb dX5_notCopied_17 rfl (lv_at hl 0 rfl) ?_
      refine mo_get hx hb hts hin5 hown hE hP rfl 12 (by decide) (hts (.fieldLink RX5 25 "HeldDoorModel" "bitsOf" "[I") (by decide +kernel)) (v := .ref (gad G 40)) rfl dX5_notCopied_18 ?_
      refine lv_iload_n hx hb dX5_notCopied_21 rfl (lv_at hl 1 rfl) ?_
      refine ar_ld hx hb hE hP 40 4 (by decide) (ar_at40 rfl) j9 (by omega) dX5_notCopied_22 ?_
      refine lv_if_eq (tgt := 35) hx hb dX5_notCopied_23 (by decide) (fun c_5 => ?_) (fun c_5 => ?_)
      · skip
        refine lv_ldc (v := (-1000000006)) hx hb hown (hts (.constant RX5 192 ((-1000000006))) (by decide +kernel)) dX5_notCopied_35 ?_
        exact hd_iret hx hb hr hlocks hP hS ⟨(by simp [f_copy, mis, moB, c_2, c_4, c_5, nI_clamp (show j9 < 2 ^ 31 by omega), nI_clamp (show i9 < 2 ^ 31 by omega)]), rfl⟩ dX5_notCopied_37
      · skip
        refine lv_aload_n hx hb dX5_notCopied_26 rfl (lv_at hl 0 rfl) ?_
        refine mo_get hx hb hts hin5 hown hE hP rfl 12 (by decide) (hts (.fieldLink RX5 25 "HeldDoorModel" "bitsOf" "[I") (by decide +kernel)) (v := .ref (gad G 40)) rfl dX5_notCopied_27 ?_
        refine lv_iload_n hx hb dX5_notCopied_30 rfl (lv_at hl 3 rfl) ?_
        refine ar_ld hx hb hE hP 40 4 (by decide) (ar_at40 rfl) i9 (by omega) dX5_notCopied_31 ?_
        refine lv_if_ne (tgt := 38) hx hb dX5_notCopied_32 (by decide) (fun c_6 => ?_) (fun c_6 => ?_)
        · skip
          refine lv_aload_n hx hb dX5_notCopied_38 rfl (lv_at hl 0 rfl) ?_
          refine mo_get hx hb hts hin5 hown hE hP rfl 12 (by decide) (hts (.fieldLink RX5 25 "HeldDoorModel" "bitsOf" "[I") (by decide +kernel)) (v := .ref (gad G 40)) rfl dX5_notCopied_39 ?_
          refine lv_iload_n hx hb dX5_notCopied_42 rfl (lv_at hl 1 rfl) ?_
          refine ar_ld hx hb hE hP 40 4 (by decide) (ar_at40 rfl) j9 (by omega) dX5_notCopied_43 ?_
          refine lv_aload_n hx hb dX5_notCopied_44 rfl (lv_at hl 0 rfl) ?_
          refine mo_get hx hb hts hin5 hown hE hP rfl 12 (by decide) (hts (.fieldLink RX5 25 "HeldDoorModel" "bitsOf" "[I") (by decide +kernel)) (v := .ref (gad G 40)) rfl dX5_notCopied_45 ?_
          refine lv_iload_n hx hb dX5_notCopied_48 rfl (lv_at hl 3 rfl) ?_
          refine ar_ld hx hb hE hP 40 4 (by decide) (ar_at40 rfl) i9 (by omega) dX5_notCopied_49 ?_
          refine lv_icmp_eq (tgt := 56) hx hb dX5_notCopied_50 (by decide) (fun c_7 => ?_) (fun c_7 => ?_)
          · skip
            refine lv_iload hx hb dX5_notCopied_56 (lv_at hl 5 rfl) ?_
            refine lv_if_lt (tgt := 101) hx hb dX5_notCopied_58 (by decide) (fun c_8 => ?_) (fun c_8 => ?_)
            · skip
              refine lv_iconst (v := 0) hx hb dX5_notCopied_101 (by decide) ?_
              refine lv_istore (lv' := [(6, .int 0), (0, .ref (gad G 34)), (1, .int (nI j9)), (2, .int a), (3, .int (nI i9)), (4, .int b), (5, .int n)]) hx hb dX5_notCopied_102 hl (by decide) rfl (fun ls hl => ?_)
              refine lv_iload hx hb dX5_notCopied_104 (lv_at hl 0 rfl) ?_
              refine lv_if_eq (tgt := 113) hx hb dX5_notCopied_106 (by decide) (fun _ => ?_) (fun h => False.elim (by revert h; decide))
              refine lv_ldc (v := (-1000000001)) hx hb hown (hts (.constant RX5 35 ((-1000000001))) (by decide +kernel)) dX5_notCopied_113 ?_
              exact hd_iret hx hb hr hlocks hP hS ⟨(by simp [f_copy, mis, moB, c_2, c_4, c_5, c_6, c_7, nI_clamp (show j9 < 2 ^ 31 by omega), nI_clamp (show i9 < 2 ^ 31 by omega), show hasR ((u.1 18) j9) a n = false from hasR_f hz8 hz9 (Or.inl c_8)]), rfl⟩ dX5_notCopied_115
            · skip
              refine lv_iload_n hx hb dX5_notCopied_61 rfl (lv_at hl 2 rfl) ?_
              refine lv_if_lt (tgt := 101) hx hb dX5_notCopied_62 (by decide) (fun c_9 => ?_) (fun c_9 => ?_)
              · skip
                refine lv_iconst (v := 0) hx hb dX5_notCopied_101 (by decide) ?_
                refine lv_istore (lv' := [(6, .int 0), (0, .ref (gad G 34)), (1, .int (nI j9)), (2, .int a), (3, .int (nI i9)), (4, .int b), (5, .int n)]) hx hb dX5_notCopied_102 hl (by decide) rfl (fun ls hl => ?_)
                refine lv_iload hx hb dX5_notCopied_104 (lv_at hl 0 rfl) ?_
                refine lv_if_eq (tgt := 113) hx hb dX5_notCopied_106 (by decide) (fun _ => ?_) (fun h => False.elim (by revert h; decide))
                refine lv_ldc (v := (-1000000001)) hx hb hown (hts (.constant RX5 35 ((-1000000001))) (by decide +kernel)) dX5_notCopied_113 ?_
                exact hd_iret hx hb hr hlocks hP hS ⟨(by simp [f_copy, mis, moB, c_2, c_4, c_5, c_6, c_7, nI_clamp (show j9 < 2 ^ 31 by omega), nI_clamp (show i9 < 2 ^ 31 by omega), show hasR ((u.1 18) j9) a n = false from hasR_f hz8 hz9 (Or.inr (Or.inl c_9))]), rfl⟩ dX5_notCopied_115
              · skip
                refine lv_iload hx hb dX5_notCopied_65 (lv_at hl 4 rfl) ?_
                refine lv_if_lt (tgt := 101) hx hb dX5_notCopied_67 (by decide) (fun c_10 => ?_) (fun c_10 => ?_)
                · skip
                  refine lv_iconst (v := 0) hx hb dX5_notCopied_101 (by decide) ?_
                  refine lv_istore (lv' := [(6, .int 0), (0, .ref (gad G 34)), (1, .int (nI j9)), (2, .int a), (3, .int (nI i9)), (4, .int b), (5, .int n)]) hx hb dX5_notCopied_102 hl (by decide) rfl (fun ls hl => ?_)
                  refine lv_iload hx hb dX5_notCopied_104 (lv_at hl 0 rfl) ?_
                  refine lv_if_eq (tgt := 113) hx hb dX5_notCopied_106 (by decide) (fun _ => ?_) (fun h => False.elim (by revert h; decide))
                  refine lv_ldc (v := (-1000000001)) hx hb hown (hts (.constant RX5 35 ((-1000000001))) (by decide +kernel)) dX5_notCopied_113 ?_
                  exact hd_iret hx hb hr hlocks hP hS ⟨(by simp [f_copy, mis, moB, c_2, c_4, c_5, c_6, c_7, nI_clamp (show j9 < 2 ^ 31 by omega), nI_clamp (show i9 < 2 ^ 31 by omega), show hasR ((u.1 18) i9) b n = false from hasR_f hz6 hz7 (Or.inr (Or.inl c_10))]), rfl⟩ dX5_notCopied_115
                · skip
                  refine lv_iload hx hb dX5_notCopied_70 (lv_at hl 5 rfl) ?_
                  refine lv_aload_n hx hb dX5_notCopied_72 rfl (lv_at hl 0 rfl) ?_
                  refine mo_get hx hb hts hin5 hown hE hP rfl 13 (by decide) (hts (.fieldLink RX5 28 "HeldDoorModel" "sizeOf" "[I") (by decide +kernel)) (v := .ref (gad G 41)) rfl dX5_notCopied_73 ?_
                  refine lv_iload_n hx hb dX5_notCopied_76 rfl (lv_at hl 1 rfl) ?_
                  refine ar_ld hx hb hE hP 41 4 (by decide) (ar_at41 rfl) j9 (by omega) dX5_notCopied_77 ?_
                  refine lv_iload_n hx hb dX5_notCopied_78 rfl (lv_at hl 2 rfl) ?_
                  refine lv_isub hx hb dX5_notCopied_79 ?_
                  refine lv_icmp_gt (tgt := 101) hx hb dX5_notCopied_80 (by decide) (fun c_11 => ?_) (fun c_11 => ?_)
                  · skip
                    refine lv_iconst (v := 0) hx hb dX5_notCopied_101 (by decide) ?_
                    refine lv_istore (lv' := [(6, .int 0), (0, .ref (gad G 34)), (1, .int (nI j9)), (2, .int a), (3, .int (nI i9)), (4, .int b), (5, .int n)]) hx hb dX5_notCopied_102 hl (by decide) rfl (fun ls hl => ?_)
                    refine lv_iload hx hb dX5_notCopied_104 (lv_at hl 0 rfl) ?_
                    refine lv_if_eq (tgt := 113) hx hb dX5_notCopied_106 (by decide) (fun _ => ?_) (fun h => False.elim (by revert h; decide))
                    refine lv_ldc (v := (-1000000001)) hx hb hown (hts (.constant RX5 35 ((-1000000001))) (by decide +kernel)) dX5_notCopied_113 ?_
                    exact hd_iret hx hb hr hlocks hP hS ⟨(by simp [f_copy, mis, moB, c_2, c_4, c_5, c_6, c_7, nI_clamp (show j9 < 2 ^ 31 by omega), nI_clamp (show i9 < 2 ^ 31 by omega), show hasR ((u.1 18) j9) a n = false from hasR_f hz8 hz9 (Or.inr (Or.inr c_11))]), rfl⟩ dX5_notCopied_115
                  · skip
                    refine lv_iload hx hb dX5_notCopied_83 (lv_at hl 5 rfl) ?_
                    refine lv_aload_n hx hb dX5_notCopied_85 rfl (lv_at hl 0 rfl) ?_
                    refine mo_get hx hb hts hin5 hown hE hP rfl 13 (by decide) (hts (.fieldLink RX5 28 "HeldDoorModel" "sizeOf" "[I") (by decide +kernel)) (v := .ref (gad G 41)) rfl dX5_notCopied_86 ?_
                    refine lv_iload_n hx hb dX5_notCopied_89 rfl (lv_at hl 3 rfl) ?_
                    refine ar_ld hx hb hE hP 41 4 (by decide) (ar_at41 rfl) i9 (by omega) dX5_notCopied_90 ?_
                    refine lv_iload hx hb dX5_notCopied_91 (lv_at hl 4 rfl) ?_
                    refine lv_isub hx hb dX5_notCopied_93 ?_
                    refine lv_icmp_gt (tgt := 101) hx hb dX5_notCopied_94 (by decide) (fun c_12 => ?_) (fun c_12 => ?_)
                    · skip
                      refine lv_iconst (v := 0) hx hb dX5_notCopied_101 (by decide) ?_
                      refine lv_istore (lv' := [(6, .int 0), (0, .ref (gad G 34)), (1, .int (nI j9)), (2, .int a), (3, .int (nI i9)), (4, .int b), (5, .int n)]) hx hb dX5_notCopied_102 hl (by decide) rfl (fun ls hl => ?_)
                      refine lv_iload hx hb dX5_notCopied_104 (lv_at hl 0 rfl) ?_
                      refine lv_if_eq (tgt := 113) hx hb dX5_notCopied_106 (by decide) (fun _ => ?_) (fun h => False.elim (by revert h; decide))
                      refine lv_ldc (v := (-1000000001)) hx hb hown (hts (.constant RX5 35 ((-1000000001))) (by decide +kernel)) dX5_notCopied_113 ?_
                      exact hd_iret hx hb hr hlocks hP hS ⟨(by simp [f_copy, mis, moB, c_2, c_4, c_5, c_6, c_7, nI_clamp (show j9 < 2 ^ 31 by omega), nI_clamp (show i9 < 2 ^ 31 by omega), show hasR ((u.1 18) i9) b n = false from hasR_f hz6 hz7 (Or.inr (Or.inr c_12))]), rfl⟩ dX5_notCopied_115
                    · skip
                      refine lv_iconst (v := 1) hx hb dX5_notCopied_97 (by decide) ?_
                      refine lv_goto (tgt := 102) hx hb dX5_notCopied_98 (by decide) ?_
                      refine lv_istore (lv' := [(6, .int 1), (0, .ref (gad G 34)), (1, .int (nI j9)), (2, .int a), (3, .int (nI i9)), (4, .int b), (5, .int n)]) hx hb dX5_notCopied_102 hl (by decide) rfl (fun ls hl => ?_)
                      refine lv_iload hx hb dX5_notCopied_104 (lv_at hl 0 rfl) ?_
                      refine lv_if_eq (tgt := 113) hx hb dX5_notCopied_106 (by decide) (fun h => False.elim (by revert h; decide)) (fun _ => ?_)
                      refine lv_iconst (v := 0) hx hb dX5_notCopied_109 (by decide) ?_
                      refine lv_goto (tgt := 115) hx hb dX5_notCopied_110 (by decide) ?_
                      exact hd_iret hx hb hr hlocks hP hS ⟨(by simp [f_copy, mis, moB, c_2, c_4, c_5, c_6, c_7, nI_clamp (show j9 < 2 ^ 31 by omega), nI_clamp (show i9 < 2 ^ 31 by omega), show hasR ((u.1 18) j9) a n = true from hasR_t hz8 hz9 c_8 c_9 c_11, show hasR ((u.1 18) i9) b n = true from hasR_t hz6 hz7 c_8 c_10 c_12]), rfl⟩ dX5_notCopied_115
          · skip
            refine lv_ldc (v := (-1000000003)) hx hb hown (hts (.constant RX5 86 ((-1000000003))) (by decide +kernel)) dX5_notCopied_53 ?_
            exact hd_iret hx hb hr hlocks hP hS ⟨(by simp [f_copy, mis, moB, c_2, c_4, c_5, c_6, c_7, nI_clamp (show j9 < 2 ^ 31 by omega), nI_clamp (show i9 < 2 ^ 31 by omega)]), rfl⟩ dX5_notCopied_55
        · skip
          refine lv_ldc (v := (-1000000006)) hx hb hown (hts (.constant RX5 192 ((-1000000006))) (by decide +kernel)) dX5_notCopied_35 ?_
          exact hd_iret hx hb hr hlocks hP hS ⟨(by simp [f_copy, mis, moB, c_2, c_4, c_5, c_6, nI_clamp (show j9 < 2 ^ 31 by omega), nI_clamp (show i9 < 2 ^ 31 by omega)]), rfl⟩ dX5_notCopied_37
    · skip
      refine lv_ldc (v := (-1000000001)) hx hb hown (hts (.constant RX5 35 ((-1000000001))) (by decide +kernel)) dX5_notCopied_14 ?_
      exact hd_iret hx hb hr hlocks hP hS ⟨(by simp [f_copy, mis, moB, c_2, c_4, nI_clamp (show j9 < 2 ^ 31 by omega)]), rfl⟩ dX5_notCopied_16
set_option maxHeartbeats 4000000 in
set_option maxRecDepth 100000 in
theorem c_X5_copy_b (l : Launch) (G : Geo) (u : Sg) (F : Nat → Int32) (h15 : u.1 15 = F) (hsz : ∀ j : Nat, j < 4 → ∃ z : Nat, z ≤ 40 ∧ u.1 18 j = nI z) (s a t b n : Int32) (hflt : f_copy s a t b n (moB u) = -1000000001) : CtI l G yX5_copy wsX5_copy (rmO 3 69) [.ref (gad G 34), .int s, .int a, .int t, .int b, .int n] u (PS u 15 F (f_copy s a t b n (moB u)) (fun r v => r = n ∧ v = sL u 4 (cpS (u.2 4) (40 * s.toNatClampNeg + a.toNatClampNeg) (40 * t.toNatClampNeg + b.toNatClampNeg) n.toNatClampNeg))) := by
  refine CtI.of (cc := cX5_copy) (maxL := 9) (ret := (some .int)) (own := RX5) (by decide) rfl rfl ?_
  rintro pg ev s0 mm below meth cd ⟨hx, hb, hr, hml, hown, hts, hlocks⟩ hE hP ls hl
  have hS : va_S (gA G) s0.heap s0.heap [] := va_S.rf
  have hl : lv_has ls 9 [(0, .ref (gad G 34)), (1, .int s), (2, .int a), (3, .int t), (4, .int b), (5, .int n)] := hl
  refine lv_aload_n hx hb dX5_copy_0 rfl (lv_at hl 0 rfl) ?_
  refine lv_iload_n hx hb dX5_copy_1 rfl (lv_at hl 1 rfl) ?_
  refine lv_iload_n hx hb dX5_copy_2 rfl (lv_at hl 2 rfl) ?_
  refine lv_iload_n hx hb dX5_copy_3 rfl (lv_at hl 3 rfl) ?_
  refine lv_iload hx hb dX5_copy_4 (lv_at hl 4 rfl) ?_
  refine lv_iload hx hb dX5_copy_6 (lv_at hl 5 rfl) ?_
  refine hd_callVi (As := [.int s, .int a, .int t, .int b, .int n]) (rest := []) ⟨hx, hb, hml, hown, hts⟩ hE hP hS (c_X5_notCopied l G u hsz s a t b n) rfl (cwV 5 hts gX5_copy_X5_notCopied rfl rfl rfl (by decide +kernel) ⟨Nat.le_of_ble_eq_true rfl, Nat.le_of_ble_eq_true rfl⟩) (mo_recv hE hP) rfl hl.1 rfl (Nat.le_of_ble_eq_true rfl) dX5_copy_8 (fun rq_1 vq_1 H locs q_1 hP hS => ?_)
  have hP := hP.cast (q_1.2)
  refine lv_cast q_1.1 ?_
  refine lv_cast hflt ?_
  refine lv_istore (lv' := [(6, .int (-1000000001)), (0, .ref (gad G 34)), (1, .int s), (2, .int a), (3, .int t), (4, .int b), (5, .int n)]) hx hb dX5_copy_11 hl (by decide) rfl (fun ls hl => ?_)
  refine lv_iload hx hb dX5_copy_13 (lv_at hl 0 rfl) ?_
  refine lv_if_eq (tgt := 25) hx hb dX5_copy_15 (by decide) (fun h => False.elim (by revert h; decide)) (fun _ => ?_)
  refine lv_aload_n hx hb dX5_copy_18 rfl (lv_at hl 1 rfl) ?_
  refine lv_iload hx hb dX5_copy_19 (lv_at hl 0 rfl) ?_
  refine hd_callVi (As := [.int (-1000000001)]) (rest := []) ⟨hx, hb, hml, hown, hts⟩ hE hP hS (c_X5_finds_0 l G u F h15) rfl (cwV 1 hts gX5_copy_X5_finds rfl rfl rfl (by decide +kernel) ⟨Nat.le_of_ble_eq_true rfl, Nat.le_of_ble_eq_true rfl⟩) (mo_recv hE hP) rfl hl.1 rfl (Nat.le_of_ble_eq_true rfl) dX5_copy_21 (fun rq_2 vq_2 H locs q_2 hP hS => ?_)
  have hP := hP.cast (q_2.2)
  refine lv_cast q_2.1 ?_
  exact hd_iret hx hb hr hlocks hP hS (PS.bad (-1000000001) hflt (by decide) rfl rfl) dX5_copy_24
set_option maxHeartbeats 4000000 in
set_option maxRecDepth 100000 in
theorem c_X5_copy_m (l : Launch) (G : Geo) (u : Sg) (F : Nat → Int32) (h15 : u.1 15 = F) (hsz : ∀ j : Nat, j < 4 → ∃ z : Nat, z ≤ 40 ∧ u.1 18 j = nI z) (s a t b n : Int32) (hflt : f_copy s a t b n (moB u) = -1000000006) : CtI l G yX5_copy wsX5_copy (rmO 3 69) [.ref (gad G 34), .int s, .int a, .int t, .int b, .int n] u (PS u 15 F (f_copy s a t b n (moB u)) (fun r v => r = n ∧ v = sL u 4 (cpS (u.2 4) (40 * s.toNatClampNeg + a.toNatClampNeg) (40 * t.toNatClampNeg + b.toNatClampNeg) n.toNatClampNeg))) := by
  refine CtI.of (cc := cX5_copy) (maxL := 9) (ret := (some .int)) (own := RX5) (by decide) rfl rfl ?_
  rintro pg ev s0 mm below meth cd ⟨hx, hb, hr, hml, hown, hts, hlocks⟩ hE hP ls hl
  have hS : va_S (gA G) s0.heap s0.heap [] := va_S.rf
  have hl : lv_has ls 9 [(0, .ref (gad G 34)), (1, .int s), (2, .int a), (3, .int t), (4, .int b), (5, .int n)] := hl
  refine lv_aload_n hx hb dX5_copy_0 rfl (lv_at hl 0 rfl) ?_
  refine lv_iload_n hx hb dX5_copy_1 rfl (lv_at hl 1 rfl) ?_
  refine lv_iload_n hx hb dX5_copy_2 rfl (lv_at hl 2 rfl) ?_
  refine lv_iload_n hx hb dX5_copy_3 rfl (lv_at hl 3 rfl) ?_
  refine lv_iload hx hb dX5_copy_4 (lv_at hl 4 rfl) ?_
  refine lv_iload hx hb dX5_copy_6 (lv_at hl 5 rfl) ?_
  refine hd_callVi (As := [.int s, .int a, .int t, .int b, .int n]) (rest := []) ⟨hx, hb, hml, hown, hts⟩ hE hP hS (c_X5_notCopied l G u hsz s a t b n) rfl (cwV 5 hts gX5_copy_X5_notCopied rfl rfl rfl (by decide +kernel) ⟨Nat.le_of_ble_eq_true rfl, Nat.le_of_ble_eq_true rfl⟩) (mo_recv hE hP) rfl hl.1 rfl (Nat.le_of_ble_eq_true rfl) dX5_copy_8 (fun rq_1 vq_1 H locs q_1 hP hS => ?_)
  have hP := hP.cast (q_1.2)
  refine lv_cast q_1.1 ?_
  refine lv_cast hflt ?_
  refine lv_istore (lv' := [(6, .int (-1000000006)), (0, .ref (gad G 34)), (1, .int s), (2, .int a), (3, .int t), (4, .int b), (5, .int n)]) hx hb dX5_copy_11 hl (by decide) rfl (fun ls hl => ?_)
  refine lv_iload hx hb dX5_copy_13 (lv_at hl 0 rfl) ?_
  refine lv_if_eq (tgt := 25) hx hb dX5_copy_15 (by decide) (fun h => False.elim (by revert h; decide)) (fun _ => ?_)
  refine lv_aload_n hx hb dX5_copy_18 rfl (lv_at hl 1 rfl) ?_
  refine lv_iload hx hb dX5_copy_19 (lv_at hl 0 rfl) ?_
  refine hd_callVi (As := [.int (-1000000006)]) (rest := []) ⟨hx, hb, hml, hown, hts⟩ hE hP hS (c_X5_finds_5 l G u F h15) rfl (cwV 1 hts gX5_copy_X5_finds rfl rfl rfl (by decide +kernel) ⟨Nat.le_of_ble_eq_true rfl, Nat.le_of_ble_eq_true rfl⟩) (mo_recv hE hP) rfl hl.1 rfl (Nat.le_of_ble_eq_true rfl) dX5_copy_21 (fun rq_2 vq_2 H locs q_2 hP hS => ?_)
  have hP := hP.cast (q_2.2)
  refine lv_cast q_2.1 ?_
  exact hd_iret hx hb hr hlocks hP hS (PS.bad (-1000000006) hflt (by decide) rfl rfl) dX5_copy_24
set_option maxHeartbeats 4000000 in
set_option maxRecDepth 100000 in
theorem c_X5_copy_k (l : Launch) (G : Geo) (u : Sg) (F : Nat → Int32) (h15 : u.1 15 = F) (hsz : ∀ j : Nat, j < 4 → ∃ z : Nat, z ≤ 40 ∧ u.1 18 j = nI z) (s a t b n : Int32) (hflt : f_copy s a t b n (moB u) = -1000000003) : CtI l G yX5_copy wsX5_copy (rmO 3 69) [.ref (gad G 34), .int s, .int a, .int t, .int b, .int n] u (PS u 15 F (f_copy s a t b n (moB u)) (fun r v => r = n ∧ v = sL u 4 (cpS (u.2 4) (40 * s.toNatClampNeg + a.toNatClampNeg) (40 * t.toNatClampNeg + b.toNatClampNeg) n.toNatClampNeg))) := by
  refine CtI.of (cc := cX5_copy) (maxL := 9) (ret := (some .int)) (own := RX5) (by decide) rfl rfl ?_
  rintro pg ev s0 mm below meth cd ⟨hx, hb, hr, hml, hown, hts, hlocks⟩ hE hP ls hl
  have hS : va_S (gA G) s0.heap s0.heap [] := va_S.rf
  have hl : lv_has ls 9 [(0, .ref (gad G 34)), (1, .int s), (2, .int a), (3, .int t), (4, .int b), (5, .int n)] := hl
  refine lv_aload_n hx hb dX5_copy_0 rfl (lv_at hl 0 rfl) ?_
  refine lv_iload_n hx hb dX5_copy_1 rfl (lv_at hl 1 rfl) ?_
  refine lv_iload_n hx hb dX5_copy_2 rfl (lv_at hl 2 rfl) ?_
  refine lv_iload_n hx hb dX5_copy_3 rfl (lv_at hl 3 rfl) ?_
  refine lv_iload hx hb dX5_copy_4 (lv_at hl 4 rfl) ?_
  refine lv_iload hx hb dX5_copy_6 (lv_at hl 5 rfl) ?_
  refine hd_callVi (As := [.int s, .int a, .int t, .int b, .int n]) (rest := []) ⟨hx, hb, hml, hown, hts⟩ hE hP hS (c_X5_notCopied l G u hsz s a t b n) rfl (cwV 5 hts gX5_copy_X5_notCopied rfl rfl rfl (by decide +kernel) ⟨Nat.le_of_ble_eq_true rfl, Nat.le_of_ble_eq_true rfl⟩) (mo_recv hE hP) rfl hl.1 rfl (Nat.le_of_ble_eq_true rfl) dX5_copy_8 (fun rq_1 vq_1 H locs q_1 hP hS => ?_)
  have hP := hP.cast (q_1.2)
  refine lv_cast q_1.1 ?_
  refine lv_cast hflt ?_
  refine lv_istore (lv' := [(6, .int (-1000000003)), (0, .ref (gad G 34)), (1, .int s), (2, .int a), (3, .int t), (4, .int b), (5, .int n)]) hx hb dX5_copy_11 hl (by decide) rfl (fun ls hl => ?_)
  refine lv_iload hx hb dX5_copy_13 (lv_at hl 0 rfl) ?_
  refine lv_if_eq (tgt := 25) hx hb dX5_copy_15 (by decide) (fun h => False.elim (by revert h; decide)) (fun _ => ?_)
  refine lv_aload_n hx hb dX5_copy_18 rfl (lv_at hl 1 rfl) ?_
  refine lv_iload hx hb dX5_copy_19 (lv_at hl 0 rfl) ?_
  refine hd_callVi (As := [.int (-1000000003)]) (rest := []) ⟨hx, hb, hml, hown, hts⟩ hE hP hS (c_X5_finds_2 l G u F h15) rfl (cwV 1 hts gX5_copy_X5_finds rfl rfl rfl (by decide +kernel) ⟨Nat.le_of_ble_eq_true rfl, Nat.le_of_ble_eq_true rfl⟩) (mo_recv hE hP) rfl hl.1 rfl (Nat.le_of_ble_eq_true rfl) dX5_copy_21 (fun rq_2 vq_2 H locs q_2 hP hS => ?_)
  have hP := hP.cast (q_2.2)
  refine lv_cast q_2.1 ?_
  exact hd_iret hx hb hr hlocks hP hS (PS.bad (-1000000003) hflt (by decide) rfl rfl) dX5_copy_24
set_option maxHeartbeats 4000000 in
set_option maxRecDepth 100000 in
theorem c_X5_copy_up (l : Launch) (G : Geo) (u : Sg) (F : Nat → Int32) (h15 : u.1 15 = F) (hsz : ∀ j : Nat, j < 4 → ∃ z : Nat, z ≤ 40 ∧ u.1 18 j = nI z) (j9 a9 i9 b9 n9 : Nat) (hj : j9 < 4) (hi9 : i9 < 4) (han : a9 + n9 ≤ 40) (hbn : b9 + n9 ≤ 40) (hab : b9 ≤ a9) (hflt : f_copy (nI j9) (nI a9) (nI i9) (nI b9) (nI n9) (moB u) = 0) : CtI l G yX5_copy wsX5_copy (rmO 3 69) [.ref (gad G 34), .int (nI j9), .int (nI a9), .int (nI i9), .int (nI b9), .int (nI n9)] u (PS u 15 F (f_copy (nI j9) (nI a9) (nI i9) (nI b9) (nI n9) (moB u)) (fun r v => r = nI n9 ∧ v = sL u 4 (cpS (u.2 4) (40 * (nI j9).toNatClampNeg + (nI a9).toNatClampNeg) (40 * (nI i9).toNatClampNeg + (nI b9).toNatClampNeg) (nI n9).toNatClampNeg))) := by
  refine CtI.of (cc := cX5_copy) (maxL := 9) (ret := (some .int)) (own := RX5) (by decide) rfl rfl ?_
  rintro pg ev s0 mm below meth cd ⟨hx, hb, hr, hml, hown, hts, hlocks⟩ hE hP ls hl
  have hS : va_S (gA G) s0.heap s0.heap [] := va_S.rf
  have hl : lv_has ls 9 [(0, .ref (gad G 34)), (1, .int (nI j9)), (2, .int (nI a9)), (3, .int (nI i9)), (4, .int (nI b9)), (5, .int (nI n9))] := hl
  have hin5 : ∀ w ∈ wsX50, w ∈ wsX5_copy := by decide +kernel
  refine lv_aload_n hx hb dX5_copy_0 rfl (lv_at hl 0 rfl) ?_
  refine lv_iload_n hx hb dX5_copy_1 rfl (lv_at hl 1 rfl) ?_
  refine lv_iload_n hx hb dX5_copy_2 rfl (lv_at hl 2 rfl) ?_
  refine lv_iload_n hx hb dX5_copy_3 rfl (lv_at hl 3 rfl) ?_
  refine lv_iload hx hb dX5_copy_4 (lv_at hl 4 rfl) ?_
  refine lv_iload hx hb dX5_copy_6 (lv_at hl 5 rfl) ?_
  refine hd_callVi (As := [.int (nI j9), .int (nI a9), .int (nI i9), .int (nI b9), .int (nI n9)]) (rest := []) ⟨hx, hb, hml, hown, hts⟩ hE hP hS (c_X5_notCopied l G u hsz (nI j9) (nI a9) (nI i9) (nI b9) (nI n9)) rfl (cwV 5 hts gX5_copy_X5_notCopied rfl rfl rfl (by decide +kernel) ⟨Nat.le_of_ble_eq_true rfl, Nat.le_of_ble_eq_true rfl⟩) (mo_recv hE hP) rfl hl.1 rfl (Nat.le_of_ble_eq_true rfl) dX5_copy_8 (fun rq_1 vq_1 H locs q_1 hP hS => ?_)
  have hP := hP.cast (q_1.2)
  refine lv_cast q_1.1 ?_
  refine lv_cast hflt ?_
  refine lv_istore (lv' := [(6, .int 0), (0, .ref (gad G 34)), (1, .int (nI j9)), (2, .int (nI a9)), (3, .int (nI i9)), (4, .int (nI b9)), (5, .int (nI n9))]) hx hb dX5_copy_11 hl (by decide) rfl (fun ls hl => ?_)
  refine lv_iload hx hb dX5_copy_13 (lv_at hl 0 rfl) ?_
  refine lv_if_eq (tgt := 25) hx hb dX5_copy_15 (by decide) (fun _ => ?_) (fun h => False.elim (by revert h; decide))
  refine lv_iconst (v := 0) hx hb dX5_copy_25 (by decide) ?_
  refine lv_istore (lv' := [(7, .int 0), (6, .int 0), (0, .ref (gad G 34)), (1, .int (nI j9)), (2, .int (nI a9)), (3, .int (nI i9)), (4, .int (nI b9)), (5, .int (nI n9))]) hx hb dX5_copy_26 hl (by decide) rfl (fun ls hl => ?_)
  have J28 : ∀ (fu : Nat) (k9 : Nat) (E : Nat → Int64) (hk : k9 ≤ n9) (hG : E = cpS (u.2 4) (40 * j9 + a9) (40 * i9 + b9) k9) (hrk : n9 - k9 < fu) (H : Heap) (locs : List Loc) (ls : Array Slot), WP G (sL u 4 E) H → va_S (gA G) s0.heap H locs → lv_has ls 9 [(0, .ref (gad G 34)), (1, .int (nI j9)), (2, .int (nI a9)), (3, .int (nI i9)), (4, .int (nI b9)), (5, .int (nI n9)), (7, .int (nI k9))] → W pg l ev (headSpec wsX5_copy (rmO 3 69)).room s0 mm ([.ref (gad G 34), .int (nI j9), .int (nI a9), .int (nI i9), .int (nI b9), .int (nI n9)] : List Value).toArray below meth cd H locs 0 0 (MQ below (va_Qi (PS u 15 F (f_copy (nI j9) (nI a9) (nI i9) (nI b9) (nI n9) (moB u)) (fun r v => r = nI n9 ∧ v = sL u 4 (cpS (u.2 4) (40 * (nI j9).toNatClampNeg + (nI a9).toNatClampNeg) (40 * (nI i9).toNatClampNeg + (nI b9).toNatClampNeg) (nI n9).toNatClampNeg))) (fun v t => WP G v t.heap) (gA G)) ([.ref (gad G 34), .int (nI j9), .int (nI a9), .int (nI i9), .int (nI b9), .int (nI n9)] : List Value).toArray s0 0 0 (gA G)) (F0 mm 28 ls []) := by
    intro fu
    induction fu with
    | zero => intro k9 E hk hG hrk; exact absurd hrk (Nat.not_lt_zero _)
    | succ fu ih28 =>
      intro k9 E hk hG hrk H locs ls hP hS hl
      refine lv_iload hx hb dX5_copy_28 (lv_at hl 6 rfl) ?_
      refine lv_iload hx hb dX5_copy_30 (lv_at hl 5 rfl) ?_
      refine nn_ge (a := k9) (b := n9) (by omega) (by omega) (tgt := 90) hx hb dX5_copy_32 (by decide) (fun c_2 => ?_) (fun c_2 => ?_)
      · skip
        refine lv_iload hx hb dX5_copy_90 (lv_at hl 5 rfl) ?_
        exact hd_iret hx hb hr hlocks hP hS (PS.ok hflt (by rw [nI_clamp (show j9 < 2 ^ 31 by omega), nI_clamp (show a9 < 2 ^ 31 by omega), nI_clamp (show i9 < 2 ^ 31 by omega), nI_clamp (show b9 < 2 ^ 31 by omega), nI_clamp (show n9 < 2 ^ 31 by omega), hG, show k9 = n9 by omega]; exact ⟨rfl, rfl⟩)) dX5_copy_92
      · skip
        refine lv_iload_n hx hb dX5_copy_35 rfl (lv_at hl 2 rfl) ?_
        refine lv_iload hx hb dX5_copy_36 (lv_at hl 4 rfl) ?_
        refine nn_ge (a := a9) (b := b9) (by omega) (by omega) (tgt := 51) hx hb dX5_copy_38 (by decide) (fun c_3 => ?_) (fun c_3 => absurd hab (by omega))
        refine lv_iload hx hb dX5_copy_51 (lv_at hl 6 rfl) ?_
        refine lv_istore (lv' := [(8, .int (nI k9)), (0, .ref (gad G 34)), (1, .int (nI j9)), (2, .int (nI a9)), (3, .int (nI i9)), (4, .int (nI b9)), (5, .int (nI n9)), (7, .int (nI k9))]) hx hb dX5_copy_53 hl (by decide) rfl (fun ls hl => ?_)
        refine lv_aload_n hx hb dX5_copy_55 rfl (lv_at hl 1 rfl) ?_
        refine mo_get hx hb hts hin5 hown hE hP rfl 14 (by decide) (hts (.fieldLink RX5 31 "HeldDoorModel" "cells" "[J") (by decide +kernel)) (v := .ref (gad G 42)) rfl dX5_copy_56 ?_
        refine lv_bipush (v := 40) hx hb dX5_copy_59 (by decide) ?_
        refine lv_iload_n hx hb dX5_copy_61 rfl (lv_at hl 4 rfl) ?_
        refine nn_imul (a := 40) (b := i9) hx hb dX5_copy_62 ?_
        refine lv_iload hx hb dX5_copy_63 (lv_at hl 5 rfl) ?_
        refine nn_iadd (a := 40 * i9) (b := b9) hx hb dX5_copy_65 ?_
        refine lv_iload hx hb dX5_copy_66 (lv_at hl 0 rfl) ?_
        refine nn_iadd (a := 40 * i9 + b9) (b := k9) hx hb dX5_copy_68 ?_
        refine lv_aload_n hx hb dX5_copy_69 rfl (lv_at hl 1 rfl) ?_
        refine mo_get hx hb hts hin5 hown hE hP rfl 14 (by decide) (hts (.fieldLink RX5 31 "HeldDoorModel" "cells" "[J") (by decide +kernel)) (v := .ref (gad G 42)) rfl dX5_copy_70 ?_
        refine lv_bipush (v := 40) hx hb dX5_copy_73 (by decide) ?_
        refine lv_iload_n hx hb dX5_copy_75 rfl (lv_at hl 2 rfl) ?_
        refine nn_imul (a := 40) (b := j9) hx hb dX5_copy_76 ?_
        refine lv_iload_n hx hb dX5_copy_77 rfl (lv_at hl 3 rfl) ?_
        refine nn_iadd (a := 40 * j9) (b := a9) hx hb dX5_copy_78 ?_
        refine lv_iload hx hb dX5_copy_79 (lv_at hl 0 rfl) ?_
        refine nn_iadd (a := 40 * j9 + a9) (b := k9) hx hb dX5_copy_81 ?_
        refine ce_ld hx hb hE hP (sL_at _ _ _) (40 * j9 + a9 + k9) (by omega) dX5_copy_82 ?_
        refine ce_st hx hb hE hP hS (sL_at _ _ _) (40 * i9 + b9 + k9) (by omega) (sL_sL _ _ _ _) dX5_copy_83 (fun H locs hP hS => ?_)
        refine lv_iinc (v := nI (k9 + 1)) (lv' := [(7, .int (nI (k9 + 1))), (8, .int (nI k9)), (0, .ref (gad G 34)), (1, .int (nI j9)), (2, .int (nI a9)), (3, .int (nI i9)), (4, .int (nI b9)), (5, .int (nI n9))]) hx hb dX5_copy_84 hl (k := 7) rfl (inc1 _) (by decide) rfl (fun ls hl => ?_)
        refine lv_goto (tgt := 28) hx hb dX5_copy_87 (by decide) ?_
        exact ih28 (k9 + 1) (vp_updL E (40 * i9 + b9 + k9) (E (40 * j9 + a9 + k9))) (by omega) (by rw [hG]; exact cpS_up _ (by omega)) (by omega) _ _ _ hP hS (lv_sub hl [2, 3, 4, 5, 6, 7, 0] rfl)
  exact J28 _ 0 (u.2 4) (Nat.zero_le _) ((cpS_0 _ _ _).symm) (Nat.lt_succ_self _) _ _ _ (hP.cast ((sL_self u 4).symm)) hS (lv_sub hl [2, 3, 4, 5, 6, 7, 0] rfl)
set_option maxHeartbeats 4000000 in
set_option maxRecDepth 100000 in
theorem c_X5_copy_dn (l : Launch) (G : Geo) (u : Sg) (F : Nat → Int32) (h15 : u.1 15 = F) (hsz : ∀ j : Nat, j < 4 → ∃ z : Nat, z ≤ 40 ∧ u.1 18 j = nI z) (j9 a9 i9 b9 n9 : Nat) (hj : j9 < 4) (hi9 : i9 < 4) (han : a9 + n9 ≤ 40) (hbn : b9 + n9 ≤ 40) (hab : a9 < b9) (hflt : f_copy (nI j9) (nI a9) (nI i9) (nI b9) (nI n9) (moB u) = 0) : CtI l G yX5_copy wsX5_copy (rmO 3 69) [.ref (gad G 34), .int (nI j9), .int (nI a9), .int (nI i9), .int (nI b9), .int (nI n9)] u (PS u 15 F (f_copy (nI j9) (nI a9) (nI i9) (nI b9) (nI n9) (moB u)) (fun r v => r = nI n9 ∧ v = sL u 4 (cpS (u.2 4) (40 * (nI j9).toNatClampNeg + (nI a9).toNatClampNeg) (40 * (nI i9).toNatClampNeg + (nI b9).toNatClampNeg) (nI n9).toNatClampNeg))) := by
  refine CtI.of (cc := cX5_copy) (maxL := 9) (ret := (some .int)) (own := RX5) (by decide) rfl rfl ?_
  rintro pg ev s0 mm below meth cd ⟨hx, hb, hr, hml, hown, hts, hlocks⟩ hE hP ls hl
  have hS : va_S (gA G) s0.heap s0.heap [] := va_S.rf
  have hl : lv_has ls 9 [(0, .ref (gad G 34)), (1, .int (nI j9)), (2, .int (nI a9)), (3, .int (nI i9)), (4, .int (nI b9)), (5, .int (nI n9))] := hl
  have hin5 : ∀ w ∈ wsX50, w ∈ wsX5_copy := by decide +kernel
  refine lv_aload_n hx hb dX5_copy_0 rfl (lv_at hl 0 rfl) ?_
  refine lv_iload_n hx hb dX5_copy_1 rfl (lv_at hl 1 rfl) ?_
  refine lv_iload_n hx hb dX5_copy_2 rfl (lv_at hl 2 rfl) ?_
  refine lv_iload_n hx hb dX5_copy_3 rfl (lv_at hl 3 rfl) ?_
  refine lv_iload hx hb dX5_copy_4 (lv_at hl 4 rfl) ?_
  refine lv_iload hx hb dX5_copy_6 (lv_at hl 5 rfl) ?_
  refine hd_callVi (As := [.int (nI j9), .int (nI a9), .int (nI i9), .int (nI b9), .int (nI n9)]) (rest := []) ⟨hx, hb, hml, hown, hts⟩ hE hP hS (c_X5_notCopied l G u hsz (nI j9) (nI a9) (nI i9) (nI b9) (nI n9)) rfl (cwV 5 hts gX5_copy_X5_notCopied rfl rfl rfl (by decide +kernel) ⟨Nat.le_of_ble_eq_true rfl, Nat.le_of_ble_eq_true rfl⟩) (mo_recv hE hP) rfl hl.1 rfl (Nat.le_of_ble_eq_true rfl) dX5_copy_8 (fun rq_1 vq_1 H locs q_1 hP hS => ?_)
  have hP := hP.cast (q_1.2)
  refine lv_cast q_1.1 ?_
  refine lv_cast hflt ?_
  refine lv_istore (lv' := [(6, .int 0), (0, .ref (gad G 34)), (1, .int (nI j9)), (2, .int (nI a9)), (3, .int (nI i9)), (4, .int (nI b9)), (5, .int (nI n9))]) hx hb dX5_copy_11 hl (by decide) rfl (fun ls hl => ?_)
  refine lv_iload hx hb dX5_copy_13 (lv_at hl 0 rfl) ?_
  refine lv_if_eq (tgt := 25) hx hb dX5_copy_15 (by decide) (fun _ => ?_) (fun h => False.elim (by revert h; decide))
  refine lv_iconst (v := 0) hx hb dX5_copy_25 (by decide) ?_
  refine lv_istore (lv' := [(7, .int 0), (6, .int 0), (0, .ref (gad G 34)), (1, .int (nI j9)), (2, .int (nI a9)), (3, .int (nI i9)), (4, .int (nI b9)), (5, .int (nI n9))]) hx hb dX5_copy_26 hl (by decide) rfl (fun ls hl => ?_)
  have J28 : ∀ (fu : Nat) (k9 : Nat) (E : Nat → Int64) (hk : k9 ≤ n9) (hG : E = cpT (u.2 4) (40 * j9 + a9) (40 * i9 + b9) n9 k9) (hrk : n9 - k9 < fu) (H : Heap) (locs : List Loc) (ls : Array Slot), WP G (sL u 4 E) H → va_S (gA G) s0.heap H locs → lv_has ls 9 [(0, .ref (gad G 34)), (1, .int (nI j9)), (2, .int (nI a9)), (3, .int (nI i9)), (4, .int (nI b9)), (5, .int (nI n9)), (7, .int (nI k9))] → W pg l ev (headSpec wsX5_copy (rmO 3 69)).room s0 mm ([.ref (gad G 34), .int (nI j9), .int (nI a9), .int (nI i9), .int (nI b9), .int (nI n9)] : List Value).toArray below meth cd H locs 0 0 (MQ below (va_Qi (PS u 15 F (f_copy (nI j9) (nI a9) (nI i9) (nI b9) (nI n9) (moB u)) (fun r v => r = nI n9 ∧ v = sL u 4 (cpS (u.2 4) (40 * (nI j9).toNatClampNeg + (nI a9).toNatClampNeg) (40 * (nI i9).toNatClampNeg + (nI b9).toNatClampNeg) (nI n9).toNatClampNeg))) (fun v t => WP G v t.heap) (gA G)) ([.ref (gad G 34), .int (nI j9), .int (nI a9), .int (nI i9), .int (nI b9), .int (nI n9)] : List Value).toArray s0 0 0 (gA G)) (F0 mm 28 ls []) := by
    intro fu
    induction fu with
    | zero => intro k9 E hk hG hrk; exact absurd hrk (Nat.not_lt_zero _)
    | succ fu ih28 =>
      intro k9 E hk hG hrk H locs ls hP hS hl
      refine lv_iload hx hb dX5_copy_28 (lv_at hl 6 rfl) ?_
      refine lv_iload hx hb dX5_copy_30 (lv_at hl 5 rfl) ?_
      refine nn_ge (a := k9) (b := n9) (by omega) (by omega) (tgt := 90) hx hb dX5_copy_32 (by decide) (fun c_2 => ?_) (fun c_2 => ?_)
      · skip
        refine lv_iload hx hb dX5_copy_90 (lv_at hl 5 rfl) ?_
        exact hd_iret hx hb hr hlocks hP hS (PS.ok hflt (by rw [nI_clamp (show j9 < 2 ^ 31 by omega), nI_clamp (show a9 < 2 ^ 31 by omega), nI_clamp (show i9 < 2 ^ 31 by omega), nI_clamp (show b9 < 2 ^ 31 by omega), nI_clamp (show n9 < 2 ^ 31 by omega), hG, show k9 = n9 by omega, cpT_n]; exact ⟨rfl, rfl⟩)) dX5_copy_92
      · skip
        refine lv_iload_n hx hb dX5_copy_35 rfl (lv_at hl 2 rfl) ?_
        refine lv_iload hx hb dX5_copy_36 (lv_at hl 4 rfl) ?_
        refine nn_ge (a := a9) (b := b9) (by omega) (by omega) (tgt := 51) hx hb dX5_copy_38 (by decide) (fun c_3 => absurd hab (by omega)) (fun c_3 => ?_)
        refine lv_iload hx hb dX5_copy_41 (lv_at hl 5 rfl) ?_
        refine lv_iconst (v := 1) hx hb dX5_copy_43 (by decide) ?_
        refine lv_isub hx hb dX5_copy_44 ?_
        refine lv_cast (show nI n9 - 1 = nI (n9 - 1) from pk_sub (a := n9) (b := 1) (by omega)) ?_
        refine lv_iload hx hb dX5_copy_45 (lv_at hl 6 rfl) ?_
        refine lv_isub hx hb dX5_copy_47 ?_
        refine lv_cast (pk_sub (by omega)) ?_
        refine lv_goto (tgt := 53) hx hb dX5_copy_48 (by decide) ?_
        refine lv_istore (lv' := [(8, .int (nI (n9 - 1 - k9))), (0, .ref (gad G 34)), (1, .int (nI j9)), (2, .int (nI a9)), (3, .int (nI i9)), (4, .int (nI b9)), (5, .int (nI n9)), (7, .int (nI k9))]) hx hb dX5_copy_53 hl (by decide) rfl (fun ls hl => ?_)
        refine lv_aload_n hx hb dX5_copy_55 rfl (lv_at hl 1 rfl) ?_
        refine mo_get hx hb hts hin5 hown hE hP rfl 14 (by decide) (hts (.fieldLink RX5 31 "HeldDoorModel" "cells" "[J") (by decide +kernel)) (v := .ref (gad G 42)) rfl dX5_copy_56 ?_
        refine lv_bipush (v := 40) hx hb dX5_copy_59 (by decide) ?_
        refine lv_iload_n hx hb dX5_copy_61 rfl (lv_at hl 4 rfl) ?_
        refine nn_imul (a := 40) (b := i9) hx hb dX5_copy_62 ?_
        refine lv_iload hx hb dX5_copy_63 (lv_at hl 5 rfl) ?_
        refine nn_iadd (a := 40 * i9) (b := b9) hx hb dX5_copy_65 ?_
        refine lv_iload hx hb dX5_copy_66 (lv_at hl 0 rfl) ?_
        refine nn_iadd (a := 40 * i9 + b9) (b := n9 - 1 - k9) hx hb dX5_copy_68 ?_
        refine lv_aload_n hx hb dX5_copy_69 rfl (lv_at hl 1 rfl) ?_
        refine mo_get hx hb hts hin5 hown hE hP rfl 14 (by decide) (hts (.fieldLink RX5 31 "HeldDoorModel" "cells" "[J") (by decide +kernel)) (v := .ref (gad G 42)) rfl dX5_copy_70 ?_
        refine lv_bipush (v := 40) hx hb dX5_copy_73 (by decide) ?_
        refine lv_iload_n hx hb dX5_copy_75 rfl (lv_at hl 2 rfl) ?_
        refine nn_imul (a := 40) (b := j9) hx hb dX5_copy_76 ?_
        refine lv_iload_n hx hb dX5_copy_77 rfl (lv_at hl 3 rfl) ?_
        refine nn_iadd (a := 40 * j9) (b := a9) hx hb dX5_copy_78 ?_
        refine lv_iload hx hb dX5_copy_79 (lv_at hl 0 rfl) ?_
        refine nn_iadd (a := 40 * j9 + a9) (b := n9 - 1 - k9) hx hb dX5_copy_81 ?_
        refine ce_ld hx hb hE hP (sL_at _ _ _) (40 * j9 + a9 + (n9 - 1 - k9)) (by omega) dX5_copy_82 ?_
        refine ce_st hx hb hE hP hS (sL_at _ _ _) (40 * i9 + b9 + (n9 - 1 - k9)) (by omega) (sL_sL _ _ _ _) dX5_copy_83 (fun H locs hP hS => ?_)
        refine lv_iinc (v := nI (k9 + 1)) (lv' := [(7, .int (nI (k9 + 1))), (8, .int (nI (n9 - 1 - k9))), (0, .ref (gad G 34)), (1, .int (nI j9)), (2, .int (nI a9)), (3, .int (nI i9)), (4, .int (nI b9)), (5, .int (nI n9))]) hx hb dX5_copy_84 hl (k := 7) rfl (inc1 _) (by decide) rfl (fun ls hl => ?_)
        refine lv_goto (tgt := 28) hx hb dX5_copy_87 (by decide) ?_
        exact ih28 (k9 + 1) (vp_updL E (40 * i9 + b9 + (n9 - 1 - k9)) (E (40 * j9 + a9 + (n9 - 1 - k9)))) (by omega) (by rw [hG]; exact cpT_dn _ (by omega) (by omega)) (by omega) _ _ _ hP hS (lv_sub hl [2, 3, 4, 5, 6, 7, 0] rfl)
  exact J28 _ 0 (u.2 4) (Nat.zero_le _) ((cpT_0 _ _ _ _).symm) (Nat.lt_succ_self _) _ _ _ (hP.cast ((sL_self u 4).symm)) hS (lv_sub hl [2, 3, 4, 5, 6, 7, 0] rfl)
theorem c_X5_copy (l : Launch) (G : Geo) (u : Sg) (F : Nat → Int32) (h15 : u.1 15 = F) (hsz : ∀ j : Nat, j < 4 → ∃ z : Nat, z ≤ 40 ∧ u.1 18 j = nI z) (s a t b n : Int32) : CtI l G yX5_copy wsX5_copy (rmO 3 69) [.ref (gad G 34), .int s, .int a, .int t, .int b, .int n] u (PS u 15 F (f_copy s a t b n (moB u)) (fun r v => r = n ∧ v = sL u 4 (cpS (u.2 4) (40 * s.toNatClampNeg + a.toNatClampNeg) (40 * t.toNatClampNeg + b.toNatClampNeg) n.toNatClampNeg))) := by
  rcases f_copy_v s a t b n (moB u) with hf | hf | hf | hf
  · obtain ⟨e1, e2, e3, e4⟩ := f_copy_ok hf
    obtain ⟨j9, -, hj9, rfl⟩ := inI_nat e1 rfl rfl (na := 0) (nb := 3) (by decide) (by decide)
    obtain ⟨i9, -, hi9, rfl⟩ := inI_nat e2 rfl rfl (na := 0) (nb := 3) (by decide) (by decide)
    obtain ⟨z9, hz9, hz8⟩ := hsz j9 (by omega)
    obtain ⟨z7, hz7, hz6⟩ := hsz i9 (by omega)
    rw [nI_clamp (show j9 < 2 ^ 31 by omega)] at e3
    rw [nI_clamp (show i9 < 2 ^ 31 by omega)] at e4
    obtain ⟨a9, n9, rfl, rfl, h5⟩ := hasR_get (z := moB u j9 1) hz8 hz9 e3
    obtain ⟨b9, n8, rfl, hn8, h6⟩ := hasR_get (z := moB u i9 1) hz6 hz7 e4
    have hn : n9 = n8 := (nI_eq (by omega) (by omega)).mp hn8
    subst hn
    rcases Nat.lt_or_ge a9 b9 with q | q
    · exact c_X5_copy_dn l G u F h15 hsz j9 a9 i9 b9 n9 (by omega) (by omega) (by omega) (by omega) q hf
    · exact c_X5_copy_up l G u F h15 hsz j9 a9 i9 b9 n9 (by omega) (by omega) (by omega) (by omega) q hf
  · exact c_X5_copy_b l G u F h15 hsz s a t b n hf
  · exact c_X5_copy_m l G u F h15 hsz s a t b n hf
  · exact c_X5_copy_k l G u F h15 hsz s a t b n hf
