set_option maxHeartbeats 4000000 in
set_option maxRecDepth 100000 in
theorem c_X6_actorIn (l : Launch) (D : va_G) (cy : qT) (h : Nat → Nat) (S : qS) (J : qS) (hI : Inv S) (k : Nat) (p : Nat) (hk : k < 2147483648) (hp : p < 8) : Met l yX6_actorIn wsX6_actorIn ({ frames := 2, cells := 0, slots := 0, locals := 41 }) (va_Pc [.ref (h 0), .int (nI k), .int (nI p)] (roB D cy (wC cy h S J))) (vp_Si (fun r9 => r9 = acI S p (k / 2 ^ ((7 - p) * 2) &&& 3))) 0 0 (fun _ => False) := by
  refine Met.ofW (cc := cX6_actorIn) (maxL := 3) (ret := (some .int)) (by decide) rfl ?_
  intro pp e9 s m9 args9 bl9 meth9 c9 s9 B hml hv
  obtain ⟨rfl, hP, hG⟩ := hv
  have hx := B.exec
  have hb := B.bytes
  have hr := B.returns
  have hts := atoms_spec (ws := wsX6_actorIn) B.pre
  have hown : s.vm.findClass RX6 = some m9.cls := findClass_of_methodNamed B.named
  have hlocks := B.notSynchronized
  have hK := hG.K
  have f_19 := hts (.fieldLink RX6 19 "CastDesk" "rows" "LCastDesk$Rows;") (by decide +kernel)
  have iX6 : ∀ w ∈ wsX60, w ∈ wsX6_actorIn := by decide +kernel
  have hl := lv_entry ([.ref (h 0), .int (nI k), .int (nI p)]) (n := 3) (Nat.le_of_ble_eq_true rfl)
  rw [lg_entry_eq]
  generalize (lg_sl ([.ref (h 0), .int (nI k), .int (nI p)]) ++ List.replicate (3 - (lg_sl ([.ref (h 0), .int (nI k), .int (nI p)])).length) Slot.unset).toArray = ls at hl ⊢
  have hl : lv_has ls 3 [(0, .ref (h 0)), (1, .int (nI k)), (2, .int (nI p))] := hl
  refine lv_aload_n hx hb dX6_actorIn_0 rfl (lv_at hl 0 rfl) ?_
  refine va_get (D := D) (ci := 6) (v := .ref (h 5)) (C := RX6) (T := TX6) (N := 8) hx hb hts iX6 hown hK hP 0 rfl rfl 1 (by decide) f_19 (fun _ h9 => h9) rfl dX6_actorIn_1 ?_
  refine lv_iload_n hx hb dX6_actorIn_4 rfl (lv_at hl 2 rfl) ?_
  refine lv_iload_n hx hb dX6_actorIn_5 rfl (lv_at hl 1 rfl) ?_
  refine lv_iload_n hx hb dX6_actorIn_6 rfl (lv_at hl 2 rfl) ?_
  have M_7 := c_X1_rankOf l k p hk hp
  refine cd_roi (va_runS (As := [.int (nI k), .int (nI p)]) (rest := [.int (nI p), .ref (h 5)]) ⟨hx, hb, hml, hown, hts⟩ M_7 (va_cwS 2 hts gX6_actorIn_X1_rankOf rfl rfl rfl (by decide +kernel) ⟨Nat.le_of_ble_eq_true rfl, Nat.le_of_ble_eq_true rfl⟩) ⟨nuB.bl, fun U hU hW => ⟨rfl, trivial⟩⟩ rfl rfl hl.1 rfl (lv_room (Nat.le_of_ble_eq_true rfl)) dX6_actorIn_7 (by exact ⟨Nat.zero_le _, Nat.zero_le _⟩)) (fun r_7 hr_7 => ?_)
  subst hr_7
  have M_10 := c_X3_actorAt l D cy h S hI p (k / 2 ^ ((7 - p) * 2) &&& 3) hp (by have := Nat.and_le_right (n := k / 2 ^ ((7 - p) * 2)) (m := 3); omega)
  have hPc := hP.sub (ws' := (wX3 cy h S)) [5, 6, 7] rfl
  refine cd_roi (va_runV (As := [.int (nI p), .int (nI (k / 2 ^ ((7 - p) * 2) &&& 3))]) (rest := []) ⟨hx, hb, hml, hown, hts⟩ M_10 (cwV 2 hts gX6_actorIn_X3_actorAt rfl rfl rfl (by decide +kernel) ⟨Nat.le_of_ble_eq_true rfl, Nat.le_of_ble_eq_true rfl⟩) ⟨roB.bl, va_recv hK hP (ci := 3) (q0 := 5) rfl rfl, fun U hU hW => ⟨rfl, by rw [hU]; exact hPc, hG.warm hW⟩⟩ rfl rfl hl.1 rfl (lv_room (Nat.le_of_ble_eq_true rfl)) dX6_actorIn_10 (by exact ⟨Nat.zero_le _, Nat.zero_le _⟩)) (fun r_10 hr_10 => ?_)
  subst hr_10
  exact W.iret (v := acI S p (k / 2 ^ ((7 - p) * 2) &&& 3)) hx hb hr (fun t ht hW => ⟨_, rfl, rfl, ht⟩) (fun _ h9 => nomatch h9) dX6_actorIn_13
