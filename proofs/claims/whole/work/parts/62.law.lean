set_option maxHeartbeats 4000000 in
set_option maxRecDepth 100000 in
/-- from the entry, for every script of at most 3585 ints, the law comes to its end with true -/
theorem whole_start {p : Program} {e : Env} {s : State} {m : MethodId} {below : List Frame} {meth : Method} {c : Code} (l : Launch) (hlt : l.stackTraces = false) {b L : Nat} {xs : Nat → Int32} (hL : L ≤ 3585) (C0 : lw_At p s m meth c b L xs) : W p l e room_1 s m #[Value.ref b] below meth c s.heap [] 0 0 (lw_Z below #[Value.ref b] s) (entryFrame m ([Value.ref b] : List Value).toArray 8) := by
  obtain ⟨hx, hb, hr, hml, hown, hts, hX, hbl, hlocks, hgv⟩ := id C0
  have hA : ∀ q : Nat, s.heap.size ≤ q → (fun q : Nat => s.heap.size ≤ q) q := fun _ h => h
  obtain ⟨D, hKc0⟩ := lw_known hts
  have hck : cOK lcl := lcl_ok
  have hcm : lcl[0]? = some (RM, TM, 29) := rfl
  have hNw : va_Nw (.methodLinkNest RX 11 ySh_init "DesignSpaces") s := va_Nw.of rfl (hts _ nw_X)
  have hS : va_S (fun q : Nat => s.heap.size ≤ q) s.heap s.heap [] := va_S.rf
  have hK : va_K D lcl [] s := ⟨hKc0, fun k q h => by simp at h⟩
  have hP : va_P D lcl [] s.heap := fun k q h => by simp at h
  have hD : va_D (fun q : Nat => s.heap.size ≤ q) [] := ⟨fun i j p q h => by simp at h, fun k q h => by simp at h⟩
  have hl := lv_entry ([.ref b]) (n := 8) (Nat.le_of_ble_eq_true rfl)
  rw [lg_entry_eq]
  generalize (lg_sl ([.ref b]) ++ List.replicate (8 - (lg_sl ([.ref b])).length) Slot.unset).toArray = ls at hl ⊢
  have hl : lv_has ls 8 [(0, .ref b)] := hl
  refine va_new (ci := 1) (fs := [.null, .null, .null, .null, .null, .null]) (C := RX) (T := TX) (N := 6) hx hb hts (fun w h => cALL_in w (inX_all w h)) tyX tyX_ok hown (hts _ (lw0_in _ mxLX)) (hts _ (cALL_in _ mtX)) (hts _ (cALL_in _ mnX)) hK hP hD hS hA hck.1 (by decide +kernel) (by decide) (by decide) dK_0 (fun qx H hP hD hS => ?_)
  have hP : va_P D lcl [(qx, .inr (1, [.null, .null, .null, .null, .null, .null]))] H := hP
  have hD : va_D (fun q : Nat => s.heap.size ≤ q) [(qx, .inr (1, [.null, .null, .null, .null, .null, .null]))] := hD
  refine W.widen (k := 1) (n := 6) (by decide) (by decide) ?_
  refine lv_dup hx hb dK_3 rfl ?_
  refine lv_aload_n hx hb dK_4 rfl (lv_at hl 0 rfl) ?_
  refine lv_iconst (v := 0) hx hb dK_5 (by decide) ?_
  refine W.callV (W.runS (g := F0 m 6 ls [.int 0, .ref b, .ref qx, .ref qx]) (As := [.ref b, .int 0]) ⟨hx, hb, hml, hown, hts⟩ (c_cell l (xs := xs) (H := H) (Nat.lt_of_lt_of_le hbl hS.1) hL) (va_cwS 2 hts gL_cell rfl rfl rfl (by decide +kernel) ⟨Nat.le_of_ble_eq_true rfl, Nat.le_of_ble_eq_true rfl⟩) ⟨fun a U g mk q => by obtain ⟨q0, q1, q2⟩ := q; exact ⟨q0, q1, va_X.moved (u := U) (U := U.calling g mk a) (Vm.Alike.refl U.vm) q2⟩, fun U hU hW => ⟨rfl, hU, va_X.moved hW.alike (hX.kept (hS.2.1 b hbl (Nat.not_le.mpr hbl)))⟩⟩ rfl rfl hl.1 rfl (lv_room (Nat.le_of_ble_eq_true rfl)) dK_6 ⟨by decide, by decide⟩) ?_
  have hPc := hP.sub (ws' := [(qx, .inr (1, [.null, .null, .null, .null, .null, .null]))]) [0] rfl
  have hDc := hD.sub (ws' := [(qx, .inr (1, [.null, .null, .null, .null, .null, .null]))]) [0] (by decide) rfl
  have hKc := hK.sub (tys' := []) [] rfl
  have hFc := va_free (wc := [(qx, .inr (1, [.null, .null, .null, .null, .null, .null]))]) hD hS hA [0] rfl
  refine va_callv (va_runI (As := [.int (sd0 xs L)]) (rest := [.ref qx]) ⟨hx, hb, hml, hown, hts⟩ (c_X_init l D lcl hck qx H.size (sd0 xs L)) (cwI 1 hts gLi_X rfl rfl rfl (hts _ (cALL_in _ mnX)) (hts _ (lw0_in _ mlL_80)) (hts _ (cALL_in _ miX_init)) rfl (by decide +kernel) ⟨Nat.le_of_ble_eq_true rfl, Nat.le_of_ble_eq_true rfl⟩) ⟨fun a U g mk q => by obtain ⟨q0, q1, qP, qK, qD, qN⟩ := q; exact ⟨q0, q1, qP, va_K.moved (u := U) (U := U.calling g mk a) (Vm.Alike.refl U.vm) qK, qD, va_Nw.same rfl rfl qN⟩, fun U hU hW => ⟨rfl, by rw [hU], by rw [hU]; exact hPc, va_K.moved hW.alike hKc, hDc.weaken (fun _ _ _ _ => trivial), va_Nw.warmM hW hNw⟩⟩ rfl rfl hl.1 rfl (lv_room (Nat.le_of_ble_eq_true rfl)) dK_9 ⟨by decide, by decide⟩) hS (fun q _ h => hFc q h) hFc (fun u t H1 locs ht hvm hq0 hB hz1 hk1 hS => ?_)
  obtain ⟨⟨oa, ca⟩, ck⟩ := u
  obtain ⟨hP1, hK1, hD1⟩ := hB
  rw [ht] at hP1
  have hK1 := va_K.moved hvm.symm hK1
  have hq0 : oa 0 = qx := hq0
  subst hq0
  obtain ⟨hP, hD⟩ := va_join (wr := []) (w1 := cW oa ca ck (cF0 (sd0 xs L)) cG0) hP hD [0] [] rfl rfl (by decide) (by decide) hk1 hFc hP1 hD1
  have hK : va_K D lcl (cT ck) s := (hK.sub (tys' := []) [] rfl).app hK1
  generalize H1 = H at hP hS ⊢
  have hP : va_P D lcl (cW oa ca ck (cF0 (sd0 xs L)) cG0) H := hP
  have hD : va_D (fun q : Nat => s.heap.size ≤ q) (cW oa ca ck (cF0 (sd0 xs L)) cG0) := hD
  refine W.widen (k := 23) (n := 30915) (by decide) (by decide) ?_
  refine lv_astore_n (lv' := [(1, .ref (oa 0)), (0, .ref b)]) hx hb dK_12 rfl hl (by decide) rfl (fun ls hl => ?_)
  refine va_new (ci := 0) (fs := [.int 0, .int 0, .int 0, .int 0, .int 0, .int 0, .null, .null, .null, .null, .null, .null, .null, .null, .null, .null, .null, .null, .null, .null, .int 0, .int 0, .int 0, .int 0, .int 0, .int 0, .int 0, .null, .null]) (C := RM) (T := TM) (N := 29) hx hb hts (fun w h => rALL_in w (inM_all w h)) tyM tyM_ok hown (hts _ (lw0_in _ mxLM)) (hts _ itM) (hts _ (rALL_in _ mnM)) hK hP hD hS hA hcm (by decide +kernel) (by decide) (by decide) dK_13 (fun qm H hP hD hS => ?_)
  have hP : va_P D lcl (cW oa ca ck (cF0 (sd0 xs L)) cG0 ++ [(qm, .inr (0, [.int 0, .int 0, .int 0, .int 0, .int 0, .int 0, .null, .null, .null, .null, .null, .null, .null, .null, .null, .null, .null, .null, .null, .null, .int 0, .int 0, .int 0, .int 0, .int 0, .int 0, .int 0, .null, .null]))]) H := hP
  have hD : va_D (fun q : Nat => s.heap.size ≤ q) (cW oa ca ck (cF0 (sd0 xs L)) cG0 ++ [(qm, .inr (0, [.int 0, .int 0, .int 0, .int 0, .int 0, .int 0, .null, .null, .null, .null, .null, .null, .null, .null, .null, .null, .null, .null, .null, .null, .int 0, .int 0, .int 0, .int 0, .int 0, .int 0, .int 0, .null, .null]))]) := hD
  refine W.widen (k := 24) (n := 30944) (by decide) (by decide) ?_
  refine lv_dup hx hb dK_16 rfl ?_
  refine lv_aload_n hx hb dK_17 rfl (lv_at hl 1 rfl) ?_
  refine lv_iconst (v := 0) hx hb dK_18 (by decide) ?_
  refine W.callV (W.runS (g := F0 m 19 ls [.int 0, .ref b, .ref qm, .ref qm]) (As := [.ref b, .int 0]) ⟨hx, hb, hml, hown, hts⟩ (c_cell l (xs := xs) (H := H) (Nat.lt_of_lt_of_le hbl hS.1) hL) (va_cwS 2 hts gL_cell rfl rfl rfl (by decide +kernel) ⟨Nat.le_of_ble_eq_true rfl, Nat.le_of_ble_eq_true rfl⟩) ⟨fun a U g mk q => by obtain ⟨q0, q1, q2⟩ := q; exact ⟨q0, q1, va_X.moved (u := U) (U := U.calling g mk a) (Vm.Alike.refl U.vm) q2⟩, fun U hU hW => ⟨rfl, hU, va_X.moved hW.alike (hX.kept (hS.2.1 b hbl (Nat.not_le.mpr hbl)))⟩⟩ rfl rfl hl.1 rfl (lv_room (Nat.le_of_ble_eq_true rfl)) dK_19 ⟨by decide, by decide⟩) ?_
  have hPc := hP.sub (ws' := [(qm, .inr (0, [.int 0, .int 0, .int 0, .int 0, .int 0, .int 0, .null, .null, .null, .null, .null, .null, .null, .null, .null, .null, .null, .null, .null, .null, .int 0, .int 0, .int 0, .int 0, .int 0, .int 0, .int 0, .null, .null]))]) [23] rfl
  have hDc := hD.sub (ws' := [(qm, .inr (0, [.int 0, .int 0, .int 0, .int 0, .int 0, .int 0, .null, .null, .null, .null, .null, .null, .null, .null, .null, .null, .null, .null, .null, .null, .int 0, .int 0, .int 0, .int 0, .int 0, .int 0, .int 0, .null, .null]))]) [23] (by decide) rfl
  have hKc := hK.sub (tys' := []) [] rfl
  have hFc := va_free (wc := [(qm, .inr (0, [.int 0, .int 0, .int 0, .int 0, .int 0, .int 0, .null, .null, .null, .null, .null, .null, .null, .null, .null, .null, .null, .null, .null, .null, .int 0, .int 0, .int 0, .int 0, .int 0, .int 0, .int 0, .null, .null]))]) hD hS hA [23] rfl
  refine va_callv (va_runI (As := [.int (sd0 xs L)]) (rest := [.ref qm]) ⟨hx, hb, hml, hown, hts⟩ (c_M_init l D lcl hcm qm H.size (sd0 xs L)) (cwI 1 hts gLi_M rfl rfl rfl (hts _ (rALL_in _ mnM)) (hts _ (lw0_in _ mlL_85)) (hts _ (rALL_in _ miM_init)) rfl (by decide +kernel) ⟨Nat.le_of_ble_eq_true rfl, Nat.le_of_ble_eq_true rfl⟩) ⟨fun a U g mk q => by obtain ⟨q0, q1, qP, qK, qD⟩ := q; exact ⟨q0, q1, qP, va_K.moved (u := U) (U := U.calling g mk a) (Vm.Alike.refl U.vm) qK, qD⟩, fun U hU hW => ⟨rfl, by rw [hU], by rw [hU]; exact hPc, va_K.moved hW.alike hKc, hDc.weaken (fun _ _ _ _ => trivial)⟩⟩ rfl rfl hl.1 rfl (lv_room (Nat.le_of_ble_eq_true rfl)) dK_22 ⟨by decide, by decide⟩) hS (fun q _ h => hFc q h) hFc (fun u t H1 locs ht hvm _ hB hz1 hk1 hS => ?_)
  obtain ⟨ba, ka⟩ := u
  obtain ⟨hP1, hK1, hD1⟩ := hB
  rw [ht] at hP1
  have hK1 := va_K.moved hvm.symm hK1
  obtain ⟨hP, hD⟩ := va_join (wr := cW oa ca ck (cF0 (sd0 xs L)) cG0) (w1 := mW qm ba ka (mF0 (sd0 xs L)) mG0) hP hD [23] [0, 1, 2, 3, 4, 5, 6, 7, 8, 9, 10, 11, 12, 13, 14, 15, 16, 17, 18, 19, 20, 21, 22] rfl rfl (by decide) (by decide) hk1 hFc hP1 hD1
  have hK : va_K D lcl (cT ck ++ mT ka) s := (hK.sub (tys' := cT ck) [0, 1, 2, 3, 4, 5, 6, 7, 8, 9, 10, 11, 12, 13, 14] rfl).app hK1
  generalize H1 = H at hP hS ⊢
  refine W.widen (k := 40) (n := 52208) (by decide) (by decide) ?_
  refine lv_astore_n (lv' := [(2, .ref qm), (1, .ref (oa 0)), (0, .ref b)]) hx hb dK_25 rfl hl (by decide) rfl (fun ls hl => ?_)
  refine lv_iconst (v := 1) hx hb dK_26 (by decide) ?_
  refine va_newa (atype := .long) (N' := 1) (a0 := (1, .inr (.inl (fun _ => 0)))) (ty := .long) (n := 1) hx hb (hts _ (cALL_in _ ma_cALL_long)) rfl hK hP hD hS hA (fun _ => rfl) (by decide) (by decide) (by decide) (by decide) (by decide) dK_27 (fun qo kl H hK hP hD hS => ?_)
  refine W.widen (k := 41) (n := 52209) (by decide) (by decide) ?_
  refine lv_astore_n (lv' := [(3, .ref qo), (2, .ref qm), (1, .ref (oa 0)), (0, .ref b)]) hx hb dK_29 rfl hl (by decide) rfl (fun ls hl => ?_)
  refine lv_iconst (v := 1) hx hb dK_30 (by decide) ?_
  refine lv_istore (lv' := lvI qo qm b 1 (oa 0)) hx hb dK_31 hl (by decide) rfl (fun ls hl => ?_)
  have hP9 := hP.sub (ws' := lW qo kl (fun _ => 0) oa ca ck (cF0 (sd0 xs L)) cG0 ++ mW qm ba ka (mF0 (sd0 xs L)) mG0) [40, 0, 1, 2, 3, 4, 5, 6, 7, 8, 9, 10, 11, 12, 13, 14, 15, 16, 17, 18, 19, 20, 21, 22, 23, 24, 25, 26, 27, 28, 29, 30, 31, 32, 33, 34, 35, 36, 37, 38, 39] rfl
  have hD9 := hD.sub (ws' := lW qo kl (fun _ => 0) oa ca ck (cF0 (sd0 xs L)) cG0 ++ mW qm ba ka (mF0 (sd0 xs L)) mG0) [40, 0, 1, 2, 3, 4, 5, 6, 7, 8, 9, 10, 11, 12, 13, 14, 15, 16, 17, 18, 19, 20, 21, 22, 23, 24, 25, 26, 27, 28, 29, 30, 31, 32, 33, 34, 35, 36, 37, 38, 39] (by decide) rfl
  have hKl := hK.sub (tys' := lT kl ck) [31, 0, 1, 2, 3, 4, 5, 6, 7, 8, 9, 10, 11, 12, 13, 14] rfl
  have hKm := hK.sub (tys' := mT ka) [15, 16, 17, 18, 19, 20, 21, 22, 23, 24, 25, 26, 27, 28, 29, 30] rfl
  exact lw_loop ⟨hx, hb, hml, hown, hts, hX, hbl, hlt, lw_xZ hts hgv, hck, hcm, hKl, hKm⟩ hL hr hlocks (L + 1) 0 (fun _ => 0) (cF0 (sd0 xs L)) cG0 (mF0 (sd0 xs L)) mG0 H _ ls (by omega) (by omega) ⟨0, 0, 0, 1, 0, 0, cR_init (sd0 xs L)⟩ hP9 hD9 hS hl
