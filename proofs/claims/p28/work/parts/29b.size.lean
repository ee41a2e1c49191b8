set_option maxHeartbeats 4000000 in
set_option maxRecDepth 100000 in
theorem c_L_size (l : Launch) (G : qG) (x : Int32) : MP l yL_size wsL_size 0 0 G [.int x] [] (szB x) := by
  refine MP.of (ty := .int) (by decide) rfl (Nat.le_of_ble_eq_true rfl) rfl ?_
  intro p e s m below meth c hx hb hml hown hts hK hP Q hret ls hl
  have hl : lv_has ls 3 [(0, .int x)] := hl
  have L4 : ∀ (f i : Nat) (nn : Int32), i + f = 5 → szL x f i nn = szB x → ∀ ls : Array Slot, lv_has ls 3 [(2, .int (nI i)), (1, .int nn), (0, .int x)] → W p l e { frames := 0, cells := 0, slots := 0, locals := 0 } s m ([.int x] : List Value).toArray below meth c s.heap [] (0) (0) Q (F0 m 4 ls []) := by
    intro f
    induction f with
    | zero =>
      intro i nn hi hv ls hl
      rw [szL_0] at hv
      obtain rfl : i = 5 := by omega
      refine lv_iload_n hx hb dL_size_4 rfl (lv_at hl 0 rfl) ?_
      refine lv_iconst (v := 5) hx hb dL_size_5 (by decide) ?_
      refine lv_icmp_ge (tgt := 23) hx hb dL_size_6 (by decide) (fun _ => ?_) (fun c_9 => absurd (by decide +kernel) c_9)
      refine lv_iload_n hx hb dL_size_23 rfl (lv_at hl 1 rfl) ?_
      exact hret _ _ _ hv dL_size_24
    | succ f ih =>
      intro i nn hi hv ls hl
      rw [szL_s] at hv
      have hlt : i < 5 := by omega
      skip
      refine lv_iload_n hx hb dL_size_4 rfl (lv_at hl 0 rfl) ?_
      refine lv_iconst (v := 5) hx hb dL_size_5 (by decide) ?_
      refine lv_icmp_ge (tgt := 23) hx hb dL_size_6 (by decide) (fun c_9 => absurd c_9 (nI_ge (b := 5) hlt (by decide))) (fun _ => ?_)
      refine lv_iload_n hx hb dL_size_9 rfl (lv_at hl 1 rfl) ?_
      refine lv_iload_n hx hb dL_size_10 rfl (lv_at hl 2 rfl) ?_
      refine lv_iload_n hx hb dL_size_11 rfl (lv_at hl 0 rfl) ?_
      refine lv_ishr hx hb dL_size_12 ?_
      refine lv_iconst (v := 1) hx hb dL_size_13 (by decide) ?_
      refine lv_iand hx hb dL_size_14 ?_
      refine lv_iadd hx hb dL_size_15 ?_
      refine lv_istore_n (lv' := [(1, .int (nn + ((x >>> ((nI i) &&& 31)) &&& 1))), (2, .int (nI i)), (0, .int x)]) hx hb dL_size_16 rfl hl (by decide) rfl (fun ls hl => ?_)
      refine lv_iinc (v := nI (i + 1)) (lv' := [(2, .int (nI (i + 1))), (1, .int (nn + ((x >>> ((nI i) &&& 31)) &&& 1))), (0, .int x)]) hx hb dL_size_17 hl (k := 1) rfl (nI_1 _) (by decide) rfl (fun ls hl => ?_)
      refine lv_goto (tgt := 4) hx hb dL_size_20 (by decide) ?_
      exact ih (i + 1) _ (by omega) hv ls (lv_sub hl [0, 1, 2] rfl)
  refine lv_iconst (v := 0) hx hb dL_size_0 (by decide) ?_
  refine lv_istore_n (lv' := [(1, .int 0), (0, .int x)]) hx hb dL_size_1 rfl hl (by decide) rfl (fun ls hl => ?_)
  refine lv_iconst (v := 0) hx hb dL_size_2 (by decide) ?_
  refine lv_istore_n (lv' := [(2, .int 0), (1, .int 0), (0, .int x)]) hx hb dL_size_3 rfl hl (by decide) rfl (fun ls hl => ?_)
  exact L4 5 0 0 rfl (by unfold szB; rfl) ls (lv_sub hl [0, 1, 2] rfl)
