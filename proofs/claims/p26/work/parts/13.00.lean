set_option maxHeartbeats 4000000 in
set_option maxRecDepth 100000 in
theorem c_X1_leastFrom (l : Launch) (D : va_G) (cy : qT) (a : Nat) (f : Nat → Int32) (n : Nat) (hn : n ≤ 8) (hf : ∀ i, i < 32 → f i = -1 ∨ bd (f i) 12) : ∀ (d p mk : Nat), p + d = 8 → mk < 4096 → Met l yX1_leastFrom wsX1_leastFrom ({ frames := d + 1, cells := 0, slots := 0, locals := 27 * d + 21 }) (va_Pc [.ref a, .int (nI n), .int (nI p), .int (nI mk)] (roB D cy [(a, aI cy 32 f)])) (vp_Si (fun r9 => r9 = lfF f n d p mk)) 0 0 (fun _ => False) := by
  intro d
  induction d with
  | zero =>
    intro p mk hpd hm
    refine Met.ofW (cc := cX1_leastFrom) (maxL := 8) (ret := (some .int)) (by decide) rfl ?_
    intro pp e9 s m9 args9 bl9 meth9 c9 s9 B hml hv
    obtain ⟨rfl, hP, hG⟩ := hv
    have hx := B.exec
    have hb := B.bytes
    have hr := B.returns
    have hts := atoms_spec (ws := wsX1_leastFrom) B.pre
    have hown : s.vm.findClass RX1 = some m9.cls := findClass_of_methodNamed B.named
    have hlocks := B.notSynchronized
    have hK := hG.K
    have hl := lv_entry ([.ref a, .int (nI n), .int (nI p), .int (nI mk)]) (n := 8) (Nat.le_of_ble_eq_true rfl)
    rw [lg_entry_eq]
    generalize (lg_sl ([.ref a, .int (nI n), .int (nI p), .int (nI mk)]) ++ List.replicate (8 - (lg_sl ([.ref a, .int (nI n), .int (nI p), .int (nI mk)])).length) Slot.unset).toArray = ls at hl ⊢
    have hl : lv_has ls 8 [(0, .ref a), (1, .int (nI n)), (2, .int (nI p)), (3, .int (nI mk))] := hl
    refine lv_iload_n hx hb dX1_leastFrom_0 rfl (lv_at hl 2 rfl) ?_
    refine lv_iload_n hx hb dX1_leastFrom_1 rfl (lv_at hl 1 rfl) ?_
    refine cd_icmp_ge (tgt := 11) hx hb dX1_leastFrom_2 (by decide) (by omega) (by omega) (fun c_2 => ?_) (fun c_2 => ?_)
    · refine lv_iconst (v := nI 0) hx hb dX1_leastFrom_11 (by decide) ?_
      exact W.iret (v := nI 0) hx hb hr (fun t ht hW => ⟨_, rfl, (by unfold lfF; rfl), ht⟩) (fun _ h9 => nomatch h9) dX1_leastFrom_12
    · refine lv_iload_n hx hb dX1_leastFrom_5 rfl (lv_at hl 2 rfl) ?_
      refine lv_bipush (v := nI 8) hx hb dX1_leastFrom_6 (by decide) ?_
      refine cd_icmp_lt (tgt := 13) hx hb dX1_leastFrom_8 (by decide) (by omega) (by omega) (fun c_8 => ?_) (fun c_8 => ?_)
      · exact absurd c_8 (by omega)
      · refine lv_iconst (v := nI 0) hx hb dX1_leastFrom_11 (by decide) ?_
        exact W.iret (v := nI 0) hx hb hr (fun t ht hW => ⟨_, rfl, (by unfold lfF; rfl), ht⟩) (fun _ h9 => nomatch h9) dX1_leastFrom_12
  | succ d ih =>
    intro p mk hpd hm
    refine Met.ofW (cc := cX1_leastFrom) (maxL := 8) (ret := (some .int)) (by decide) rfl ?_
    intro pp e9 s m9 args9 bl9 meth9 c9 s9 B hml hv
    obtain ⟨rfl, hP, hG⟩ := hv
    have hx := B.exec
    have hb := B.bytes
    have hr := B.returns
    have hts := atoms_spec (ws := wsX1_leastFrom) B.pre
    have hown : s.vm.findClass RX1 = some m9.cls := findClass_of_methodNamed B.named
    have hlocks := B.notSynchronized
    have hK := hG.K
    have in_X6 := hts (.initialized RX6) (by decide +kernel)
    have st_has := hts (.static yX6_has) (by decide +kernel)
    have st_with := hts (.static yX6_with) (by decide +kernel)
    have hl := lv_entry ([.ref a, .int (nI n), .int (nI p), .int (nI mk)]) (n := 8) (Nat.le_of_ble_eq_true rfl)
    rw [lg_entry_eq]
    generalize (lg_sl ([.ref a, .int (nI n), .int (nI p), .int (nI mk)]) ++ List.replicate (8 - (lg_sl ([.ref a, .int (nI n), .int (nI p), .int (nI mk)])).length) Slot.unset).toArray = ls at hl ⊢
    have hl : lv_has ls 8 [(0, .ref a), (1, .int (nI n)), (2, .int (nI p)), (3, .int (nI mk))] := hl
    refine lv_iload_n hx hb dX1_leastFrom_0 rfl (lv_at hl 2 rfl) ?_
    refine lv_iload_n hx hb dX1_leastFrom_1 rfl (lv_at hl 1 rfl) ?_
    refine cd_icmp_ge (tgt := 11) hx hb dX1_leastFrom_2 (by decide) (by omega) (by omega) (fun c_2 => ?_) (fun c_2 => ?_)
    · refine lv_iconst (v := nI 0) hx hb dX1_leastFrom_11 (by decide) ?_
      exact W.iret (v := nI 0) hx hb hr (fun t ht hW => ⟨_, rfl, (by unfold lfF; rw [if_pos (by omega)]), ht⟩) (fun _ h9 => nomatch h9) dX1_leastFrom_12
    · refine lv_iload_n hx hb dX1_leastFrom_5 rfl (lv_at hl 2 rfl) ?_
      refine lv_bipush (v := nI 8) hx hb dX1_leastFrom_6 (by decide) ?_
      refine cd_icmp_lt (tgt := 13) hx hb dX1_leastFrom_8 (by decide) (by omega) (by omega) (fun c_8 => ?_) (fun c_8 => ?_)
      · refine lv_iconst (v := (-1)) hx hb dX1_leastFrom_13 (by decide) ?_
        refine lv_istore (lv' := [(4, .int (-1)), (0, .ref a), (1, .int (nI n)), (2, .int (nI p)), (3, .int (nI mk))]) hx hb dX1_leastFrom_14 hl (by decide) rfl (fun ls hl => ?_)
        refine lv_iconst (v := nI 0) hx hb dX1_leastFrom_16 (by decide) ?_
        refine lv_istore (lv' := [(5, .int (nI 0)), (4, .int (-1)), (0, .ref a), (1, .int (nI n)), (2, .int (nI p)), (3, .int (nI mk))]) hx hb dX1_leastFrom_17 hl (by decide) rfl (fun ls hl => ?_)
        refine wl1 (nL := 8) (fun (r : Nat) => r ≤ 4) (fun (r : Nat) => 4 - r) (fun (r : Nat) => [(0, .ref a), (1, .int (nI n)), (2, .int (nI p)), (3, .int (nI mk)), (4, .int (lfL f (lfF f n d (p + 1)) p mk r)), (5, .int (nI r))]) (fun r hi_19 ih_19 ls hl => ?_) 0 (by decide) (lv_sub hl [2, 3, 4, 5, 1, 0] rfl)
        refine lv_iload hx hb dX1_leastFrom_19 (lv_at hl 5 rfl) ?_
        refine lv_iconst (v := nI 4) hx hb dX1_leastFrom_21 (by decide) ?_
        refine cd_icmp_ge (tgt := 104) hx hb dX1_leastFrom_22 (by decide) (by omega) (by omega) (fun c_22 => ?_) (fun c_22 => ?_)
        · refine lv_iload hx hb dX1_leastFrom_104 (lv_at hl 4 rfl) ?_
          exact W.iret (v := lfL f (lfF f n d (p + 1)) p mk r) hx hb hr (fun t ht hW => ⟨_, rfl, (by rw [show r = 4 by omega]; unfold lfF; rw [if_neg (by omega)]), ht⟩) (fun _ h9 => nomatch h9) dX1_leastFrom_106
        · refine lv_aload_n hx hb dX1_leastFrom_25 rfl (lv_at hl 0 rfl) ?_
          refine lv_iload_n hx hb dX1_leastFrom_26 rfl (lv_at hl 2 rfl) ?_
          refine lv_iconst (v := nI 4) hx hb dX1_leastFrom_27 (by decide) ?_
          refine cd_imul hx hb dX1_leastFrom_28 ?_
          refine lv_iload hx hb dX1_leastFrom_29 (lv_at hl 5 rfl) ?_
          refine cd_iadd hx hb dX1_leastFrom_31 ?_
          refine cd_iald (f := f) hx hb hK hP 0 rfl (by omega) (by decide) dX1_leastFrom_32 ?_
          refine lv_istore (lv' := [(6, .int (f ((p * 4) + r))), (0, .ref a), (1, .int (nI n)), (2, .int (nI p)), (3, .int (nI mk)), (4, .int (lfL f (lfF f n d (p + 1)) p mk r)), (5, .int (nI r))]) hx hb dX1_leastFrom_33 hl (by decide) rfl (fun ls hl => ?_)
          refine lv_iload hx hb dX1_leastFrom_35 (lv_at hl 0 rfl) ?_
          refine lv_iconst (v := (-1)) hx hb dX1_leastFrom_37 (by decide) ?_
          refine lv_icmp_eq (tgt := 98) hx hb dX1_leastFrom_38 (by decide) (fun c_38 => ?_) (fun c_38 => ?_)
          · refine lv_iinc (v := nI (r + 1)) (lv' := [(5, .int (nI (r + 1))), (6, .int (f ((p * 4) + r))), (0, .ref a), (1, .int (nI n)), (2, .int (nI p)), (3, .int (nI mk)), (4, .int (lfL f (lfF f n d (p + 1)) p mk r))]) hx hb dX1_leastFrom_98 hl (k := 6) rfl (cd_i1 _) (by decide) rfl (fun ls hl => ?_)
            refine lv_goto (tgt := 19) hx hb dX1_leastFrom_101 (by decide) ?_
            have hl : lv_has ls 8 [(5, .int (nI (r + 1))), (6, .int (f ((p * 4) + r))), (0, .ref a), (1, .int (nI n)), (2, .int (nI p)), (3, .int (nI mk)), (4, .int (lfL f (lfF f n d (p + 1)) p mk (r + 1)))] := by rw [← (by rw [lfL_s, if_pos (Or.inl c_38)] : (lfL f (lfF f n d (p + 1)) p mk r : Int32) = lfL f (lfF f n d (p + 1)) p mk (r + 1))]; exact hl
            exact ih_19 (r + 1) (by omega) (by omega) _ (lv_sub hl [2, 3, 4, 5, 6, 0] rfl)
          · have ha := (hf (p * 4 + r) (by omega)).resolve_left c_38
            have hab := ha.2
            have hwl := or_lt (n := 12) hm hab
            have hl : lv_has ls 8 [(6, .int (nI (nv (f (p * 4 + r))))), (0, .ref a), (1, .int (nI n)), (2, .int (nI p)), (3, .int (nI mk)), (4, .int (lfL f (lfF f n d (p + 1)) p mk r)), (5, .int (nI r))] := by rw [← (ha.1 : (f ((p * 4) + r) : Int32) = nI (nv (f (p * 4 + r))))]; exact hl
            refine lv_iload_n hx hb dX1_leastFrom_41 rfl (lv_at hl 4 rfl) ?_
            refine lv_iload hx hb dX1_leastFrom_42 (lv_at hl 0 rfl) ?_
            have M_44 := c_X6_has l mk (nv (f (p * 4 + r))) (by omega) (by omega)
            refine cd_roi (va_runSN (As := [.int (nI mk), .int (nI (nv (f (p * 4 + r))))]) (rest := []) ⟨hx, hb, hml, hown, hts⟩ M_44 ⟨va_cnB 2 hts gX1_leastFrom_X6_has_n44 rfl rfl rfl hG.2.1.2.2.2.2.2.1 in_X6 (by decide +kernel) ⟨by show 1 ≤ d + 2; omega, by show 21 ≤ 27 * (d + 1) + 21; omega⟩, st_has, trivial⟩ ⟨nuB.bl, fun U hU hW => ⟨rfl, trivial⟩⟩ rfl rfl hl.1 rfl (lv_room (Nat.le_of_ble_eq_true rfl)) dX1_leastFrom_44 (by exact ⟨Nat.zero_le _, Nat.zero_le _⟩)) (fun r_44 hr_44 => ?_)
            subst hr_44
            refine cd_ifB_eq (tgt := 53) hx hb dX1_leastFrom_47 (by decide) (fun c_47 => ?_) (fun c_47 => ?_)
            · have hno : ¬ (f (p * 4 + r) = -1 ∨ mk.testBit (nv (f (p * 4 + r))) = true) := fun q => q.elim c_38 (fun q => by rw [c_47] at q; exact Bool.noConfusion q)
              refine lv_aload_n hx hb dX1_leastFrom_53 rfl (lv_at hl 1 rfl) ?_
              refine lv_iload_n hx hb dX1_leastFrom_54 rfl (lv_at hl 2 rfl) ?_
              refine lv_iload_n hx hb dX1_leastFrom_55 rfl (lv_at hl 3 rfl) ?_
              refine lv_iconst (v := nI 1) hx hb dX1_leastFrom_56 (by decide) ?_
              refine cd_iadd hx hb dX1_leastFrom_57 ?_
              refine lv_iload_n hx hb dX1_leastFrom_58 rfl (lv_at hl 4 rfl) ?_
              refine lv_iload hx hb dX1_leastFrom_59 (lv_at hl 0 rfl) ?_
              have M_61 := c_X6_with l mk (nv (f (p * 4 + r))) (by omega)
              refine cd_roi (va_runSN (As := [.int (nI mk), .int (nI (nv (f (p * 4 + r))))]) (rest := [.int (nI (p + 1)), .int (nI n), .ref a]) ⟨hx, hb, hml, hown, hts⟩ M_61 ⟨va_cnB 2 hts gX1_leastFrom_X6_with_n48 rfl rfl rfl hG.2.1.2.2.2.2.2.2 in_X6 (by decide +kernel) ⟨by show 1 ≤ d + 2; omega, by show 21 ≤ 27 * (d + 1) + 21; omega⟩, st_with, trivial⟩ ⟨nuB.bl, fun U hU hW => ⟨rfl, trivial⟩⟩ rfl rfl hl.1 rfl (lv_room (Nat.le_of_ble_eq_true rfl)) dX1_leastFrom_61 (by exact ⟨Nat.zero_le _, Nat.zero_le _⟩)) (fun r_61 hr_61 => ?_)
              subst hr_61
              have M_64 := ih (p + 1) (mk ||| 2 ^ nv (f (p * 4 + r))) (by omega) hwl
              refine cd_roi (va_runS (As := [.ref a, .int (nI n), .int (nI (p + 1)), .int (nI (mk ||| 2 ^ (nv (f (p * 4 + r)))))]) (rest := []) ⟨hx, hb, hml, hown, hts⟩ M_64 (va_cwS 4 hts gX1_leastFrom_X1_leastFrom rfl rfl rfl (by decide +kernel) ⟨by show d + 1 + 1 ≤ d + 2; omega, by show 8 + (8 + 11) + (27 * d + 21) ≤ 27 * (d + 1) + 21; omega⟩) ⟨roB.bl, fun U hU hW => ⟨rfl, by rw [hU]; exact hP, hG.warm hW⟩⟩ rfl rfl hl.1 rfl (lv_room (Nat.le_of_ble_eq_true rfl)) dX1_leastFrom_64 (by exact ⟨Nat.zero_le _, Nat.zero_le _⟩)) (fun r_64 hr_64 => ?_)
              subst hr_64
              refine lv_istore (lv' := [(7, .int (lfF f n d (p + 1) (mk ||| 2 ^ (nv (f (p * 4 + r)))))), (6, .int (nI (nv (f (p * 4 + r))))), (0, .ref a), (1, .int (nI n)), (2, .int (nI p)), (3, .int (nI mk)), (4, .int (lfL f (lfF f n d (p + 1)) p mk r)), (5, .int (nI r))]) hx hb dX1_leastFrom_67 hl (by decide) rfl (fun ls hl => ?_)
              refine lv_iload hx hb dX1_leastFrom_69 (lv_at hl 0 rfl) ?_
              refine lv_iconst (v := (-1)) hx hb dX1_leastFrom_71 (by decide) ?_
              refine lv_icmp_eq (tgt := 98) hx hb dX1_leastFrom_72 (by decide) (fun c_72 => ?_) (fun c_72 => ?_)
              · refine lv_iinc (v := nI (r + 1)) (lv' := [(5, .int (nI (r + 1))), (7, .int (lfF f n d (p + 1) (mk ||| 2 ^ (nv (f (p * 4 + r)))))), (6, .int (nI (nv (f (p * 4 + r))))), (0, .ref a), (1, .int (nI n)), (2, .int (nI p)), (3, .int (nI mk)), (4, .int (lfL f (lfF f n d (p + 1)) p mk r))]) hx hb dX1_leastFrom_98 hl (k := 7) rfl (cd_i1 _) (by decide) rfl (fun ls hl => ?_)
                refine lv_goto (tgt := 19) hx hb dX1_leastFrom_101 (by decide) ?_
                have hl : lv_has ls 8 [(5, .int (nI (r + 1))), (7, .int (lfF f n d (p + 1) (mk ||| 2 ^ (nv (f (p * 4 + r)))))), (6, .int (nI (nv (f (p * 4 + r))))), (0, .ref a), (1, .int (nI n)), (2, .int (nI p)), (3, .int (nI mk)), (4, .int (lfL f (lfF f n d (p + 1)) p mk (r + 1)))] := by rw [← (by rw [lfL_s, if_neg hno, if_pos c_72] : (lfL f (lfF f n d (p + 1)) p mk r : Int32) = lfL f (lfF f n d (p + 1)) p mk (r + 1))]; exact hl
                exact ih_19 (r + 1) (by omega) (by omega) _ (lv_sub hl [3, 4, 5, 6, 7, 0] rfl)
              · refine lv_iload hx hb dX1_leastFrom_75 (lv_at hl 6 rfl) ?_
                refine lv_iconst (v := (-1)) hx hb dX1_leastFrom_77 (by decide) ?_
                refine lv_icmp_eq (tgt := 91) hx hb dX1_leastFrom_78 (by decide) (fun c_78 => ?_) (fun c_78 => ?_)
                · refine lv_iload hx hb dX1_leastFrom_91 (lv_at hl 7 rfl) ?_
                  refine lv_iload hx hb dX1_leastFrom_93 (lv_at hl 0 rfl) ?_
                  refine lv_iadd hx hb dX1_leastFrom_95 ?_
                  refine lv_istore (lv' := [(4, .int ((nI r) + (lfF f n d (p + 1) (mk ||| 2 ^ (nv (f (p * 4 + r))))))), (7, .int (lfF f n d (p + 1) (mk ||| 2 ^ (nv (f (p * 4 + r)))))), (6, .int (nI (nv (f (p * 4 + r))))), (0, .ref a), (1, .int (nI n)), (2, .int (nI p)), (3, .int (nI mk)), (5, .int (nI r))]) hx hb dX1_leastFrom_96 hl (by decide) rfl (fun ls hl => ?_)
                  refine lv_iinc (v := nI (r + 1)) (lv' := [(5, .int (nI (r + 1))), (4, .int ((nI r) + (lfF f n d (p + 1) (mk ||| 2 ^ (nv (f (p * 4 + r))))))), (7, .int (lfF f n d (p + 1) (mk ||| 2 ^ (nv (f (p * 4 + r)))))), (6, .int (nI (nv (f (p * 4 + r))))), (0, .ref a), (1, .int (nI n)), (2, .int (nI p)), (3, .int (nI mk))]) hx hb dX1_leastFrom_98 hl (k := 7) rfl (cd_i1 _) (by decide) rfl (fun ls hl => ?_)
                  refine lv_goto (tgt := 19) hx hb dX1_leastFrom_101 (by decide) ?_
                  have hl : lv_has ls 8 [(5, .int (nI (r + 1))), (4, .int (lfL f (lfF f n d (p + 1)) p mk (r + 1))), (7, .int (lfF f n d (p + 1) (mk ||| 2 ^ (nv (f (p * 4 + r)))))), (6, .int (nI (nv (f (p * 4 + r))))), (0, .ref a), (1, .int (nI n)), (2, .int (nI p)), (3, .int (nI mk))] := by rw [← (by rw [lfL_s, if_neg hno, if_neg c_72]; exact (if_pos (Or.inl c_78)).symm : ((nI r) + (lfF f n d (p + 1) (mk ||| 2 ^ (nv (f (p * 4 + r))))) : Int32) = lfL f (lfF f n d (p + 1)) p mk (r + 1))]; exact hl
                  exact ih_19 (r + 1) (by omega) (by omega) _ (lv_sub hl [4, 5, 6, 7, 1, 0] rfl)
                · refine lv_iload hx hb dX1_leastFrom_81 (lv_at hl 7 rfl) ?_
                  refine lv_iload hx hb dX1_leastFrom_83 (lv_at hl 0 rfl) ?_
                  refine lv_iadd hx hb dX1_leastFrom_85 ?_
                  refine lv_iload hx hb dX1_leastFrom_86 (lv_at hl 6 rfl) ?_
                  refine lv_icmp_ge (tgt := 98) hx hb dX1_leastFrom_88 (by decide) (fun c_88 => ?_) (fun c_88 => ?_)
                  · refine lv_iinc (v := nI (r + 1)) (lv' := [(5, .int (nI (r + 1))), (7, .int (lfF f n d (p + 1) (mk ||| 2 ^ (nv (f (p * 4 + r)))))), (6, .int (nI (nv (f (p * 4 + r))))), (0, .ref a), (1, .int (nI n)), (2, .int (nI p)), (3, .int (nI mk)), (4, .int (lfL f (lfF f n d (p + 1)) p mk r))]) hx hb dX1_leastFrom_98 hl (k := 7) rfl (cd_i1 _) (by decide) rfl (fun ls hl => ?_)
                    refine lv_goto (tgt := 19) hx hb dX1_leastFrom_101 (by decide) ?_
                    have hl : lv_has ls 8 [(5, .int (nI (r + 1))), (7, .int (lfF f n d (p + 1) (mk ||| 2 ^ (nv (f (p * 4 + r)))))), (6, .int (nI (nv (f (p * 4 + r))))), (0, .ref a), (1, .int (nI n)), (2, .int (nI p)), (3, .int (nI mk)), (4, .int (lfL f (lfF f n d (p + 1)) p mk (r + 1)))] := by rw [← (by rw [lfL_s, if_neg hno, if_neg c_72]; exact (if_neg (fun q => q.elim c_78 (Int32.not_lt.mpr c_88))).symm : (lfL f (lfF f n d (p + 1)) p mk r : Int32) = lfL f (lfF f n d (p + 1)) p mk (r + 1))]; exact hl
                    exact ih_19 (r + 1) (by omega) (by omega) _ (lv_sub hl [3, 4, 5, 6, 7, 0] rfl)
                  · refine lv_iload hx hb dX1_leastFrom_91 (lv_at hl 7 rfl) ?_
                    refine lv_iload hx hb dX1_leastFrom_93 (lv_at hl 0 rfl) ?_
                    refine lv_iadd hx hb dX1_leastFrom_95 ?_
                    refine lv_istore (lv' := [(4, .int ((nI r) + (lfF f n d (p + 1) (mk ||| 2 ^ (nv (f (p * 4 + r))))))), (7, .int (lfF f n d (p + 1) (mk ||| 2 ^ (nv (f (p * 4 + r)))))), (6, .int (nI (nv (f (p * 4 + r))))), (0, .ref a), (1, .int (nI n)), (2, .int (nI p)), (3, .int (nI mk)), (5, .int (nI r))]) hx hb dX1_leastFrom_96 hl (by decide) rfl (fun ls hl => ?_)
                    refine lv_iinc (v := nI (r + 1)) (lv' := [(5, .int (nI (r + 1))), (4, .int ((nI r) + (lfF f n d (p + 1) (mk ||| 2 ^ (nv (f (p * 4 + r))))))), (7, .int (lfF f n d (p + 1) (mk ||| 2 ^ (nv (f (p * 4 + r)))))), (6, .int (nI (nv (f (p * 4 + r))))), (0, .ref a), (1, .int (nI n)), (2, .int (nI p)), (3, .int (nI mk))]) hx hb dX1_leastFrom_98 hl (k := 7) rfl (cd_i1 _) (by decide) rfl (fun ls hl => ?_)
                    refine lv_goto (tgt := 19) hx hb dX1_leastFrom_101 (by decide) ?_
                    have hl : lv_has ls 8 [(5, .int (nI (r + 1))), (4, .int (lfL f (lfF f n d (p + 1)) p mk (r + 1))), (7, .int (lfF f n d (p + 1) (mk ||| 2 ^ (nv (f (p * 4 + r)))))), (6, .int (nI (nv (f (p * 4 + r))))), (0, .ref a), (1, .int (nI n)), (2, .int (nI p)), (3, .int (nI mk))] := by rw [← (by rw [lfL_s, if_neg hno, if_neg c_72]; exact (if_pos (Or.inr (Int32.not_le.mp c_88))).symm : ((nI r) + (lfF f n d (p + 1) (mk ||| 2 ^ (nv (f (p * 4 + r))))) : Int32) = lfL f (lfF f n d (p + 1)) p mk (r + 1))]; exact hl
                    exact ih_19 (r + 1) (by omega) (by omega) _ (lv_sub hl [4, 5, 6, 7, 1, 0] rfl)
            · refine lv_goto (tgt := 98) hx hb dX1_leastFrom_50 (by decide) ?_
              refine lv_iinc (v := nI (r + 1)) (lv' := [(5, .int (nI (r + 1))), (6, .int (nI (nv (f (p * 4 + r))))), (0, .ref a), (1, .int (nI n)), (2, .int (nI p)), (3, .int (nI mk)), (4, .int (lfL f (lfF f n d (p + 1)) p mk r))]) hx hb dX1_leastFrom_98 hl (k := 6) rfl (cd_i1 _) (by decide) rfl (fun ls hl => ?_)
              refine lv_goto (tgt := 19) hx hb dX1_leastFrom_101 (by decide) ?_
              have hl : lv_has ls 8 [(5, .int (nI (r + 1))), (6, .int (nI (nv (f (p * 4 + r))))), (0, .ref a), (1, .int (nI n)), (2, .int (nI p)), (3, .int (nI mk)), (4, .int (lfL f (lfF f n d (p + 1)) p mk (r + 1)))] := by rw [← (by rw [lfL_s, if_pos (Or.inr c_47)] : (lfL f (lfF f n d (p + 1)) p mk r : Int32) = lfL f (lfF f n d (p + 1)) p mk (r + 1))]; exact hl
              exact ih_19 (r + 1) (by omega) (by omega) _ (lv_sub hl [2, 3, 4, 5, 6, 0] rfl)
      · refine lv_iconst (v := nI 0) hx hb dX1_leastFrom_11 (by decide) ?_
        exact W.iret (v := nI 0) hx hb hr (fun t ht hW => ⟨_, rfl, (by unfold lfF; rw [if_pos (by omega)]), ht⟩) (fun _ h9 => nomatch h9) dX1_leastFrom_12
