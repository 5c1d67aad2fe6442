theorem fpw32_3283619441 : ∀ k_ j_ : Int, mFP k_ j_ → ¬ ((181 ≤ k_ ∧ k_ ≤ 183)) := by intro k_ j_ h; omega
theorem fpw32_2611390297 : ∀ k_ j_ : Int, mFP k_ j_ → ¬ ((182 ≤ k_ ∧ k_ ≤ 183)) := by intro k_ j_ h; omega
set_option maxHeartbeats 4000000 in
set_option maxRecDepth 20000 in
theorem ct_X11_seekCast_178 (l : Launch) (G : dkG) (hGd : dk_Gd G) (w q n : Int) : dk_Ct l G dk_Ty yX11_seekCast cX11_seekCast 12 (some .boolean) 1 190 190 (fun av σ => av = [(4, 141), (0, w), (0, q), (4, 178)] ∧ (MI σ) ∧ (n = σ 141 70)) (fun _ σ r_ σ' => ∃ z : Int, r_ = some (0, z) ∧ (∀ k_ j_ : Int, ¬ ((k_ = 141 ∧ j_ = 71) ∨ (k_ = 141 ∧ j_ = 72) ∨ (181 ≤ k_ ∧ k_ ≤ 183) ∨ k_ = 178) → σ' k_ j_ = σ k_ j_) ∧ (0 ≤ z ∧ z ≤ 1)) := by
  refine dk_enter hGd (by decide) (fun av σ hpre hok => ?_)
  obtain ⟨rfl, hG, hn⟩ := hpre
  refine ⟨Nat.le_of_ble_eq_true rfl, fun E hE hR _ => ?_⟩
  have hi_w : dk_i32 w := dk_oki (hok _ (by simp))
  have hi_q : dk_i32 q := dk_oki (hok _ (by simp))
  show dk_PJ E 0 [(4, 141), (0, w), (0, q), (4, 178), (9, 0), (9, 0), (9, 0), (9, 0), (9, 0), (9, 0), (9, 0), (9, 0)] [] 190 σ
  refine dk_iconst (pc' := 1) hE dX11_seekCast_0 (by decide) rfl ?_
  refine dk_istore (pc' := 3) (ls' := [(4, 141), (0, w), (0, q), (4, 178), (0, 0), (9, 0), (9, 0), (9, 0), (9, 0), (9, 0), (9, 0), (9, 0)]) hE dX11_seekCast_1 rfl (by decide) rfl ?_
  have lp3 : ∀ (N_ : Nat) (i : Int) (σ3c : dkS), (2147483648 - i).toNat < N_ → ((∀ k_ j_ : Int, ¬ ((182 ≤ k_ ∧ k_ ≤ 183)) → σ3c k_ j_ = σ k_ j_)) → (0 ≤ i) → (∀ q_ : Int, 0 ≤ q_ → q_ < i → σ3c 182 (1024 * n + q_) = 0) → dk_PJ E 3 [(4, 141), (0, w), (0, q), (4, 178), (0, i), (9, 0), (9, 0), (9, 0), (9, 0), (9, 0), (9, 0), (9, 0)] [] 190 σ3c := by
    intro N3
    induction N3 with
    | zero => intro i σ3c hm; exact absurd hm (Nat.not_lt_zero _)
    | succ N3 ih3 =>
      intro i σ3c hm3 hF3 hi hz
      refine dk_iload (pc' := 5) hE dX11_seekCast_3 rfl rfl ?_
      refine dk_sipush (pc' := 8) hE dX11_seekCast_5 (by decide) rfl ?_
      refine dk_icmp_ge (tgt := 51) (pc' := 11) hE dX11_seekCast_8 (by decide) rfl (fun hc1 => ?_) (fun hc1 => ?_)
      · skip
        refine dk_aload_n (pc' := 52) hE dX11_seekCast_51 rfl rfl rfl ?_
        refine gf_11_70 (pc' := 55) hE fl_X11_483 dX11_seekCast_52 is_141 rfl (fun v2 hv2 htv2 hbv2 => ?_)
        have hq2 : n = v2 := (show v2 = n by rw [hv2, hF3 141 70 (by omega), hn]).symm
        subst hq2
        refine dk_iconst (pc' := 56) hE dX11_seekCast_55 (by decide) rfl ?_
        obtain ⟨v3, hv3⟩ : ∃ z : Int, z = n - 1 := ⟨_, rfl⟩
        refine dk_isub (pc' := 57) hE dX11_seekCast_56 hv3.symm (by omega) rfl ?_
        refine dk_istore (pc' := 59) (ls' := [(4, 141), (0, w), (0, q), (4, 178), (0, v3), (9, 0), (9, 0), (9, 0), (9, 0), (9, 0), (9, 0), (9, 0)]) hE dX11_seekCast_57 rfl (by decide) rfl ?_
        have lp59 : ∀ (N_ : Nat) (i : Int) (σ59c : dkS), (i + 1).toNat < N_ → ((∀ k_ j_ : Int, ¬ ((181 ≤ k_ ∧ k_ ≤ 183)) → σ59c k_ j_ = σ3c k_ j_)) → (-1 ≤ i ∧ i < n) → (TB n i 0 σ59c) → dk_PJ E 59 [(4, 141), (0, w), (0, q), (4, 178), (0, i), (9, 0), (9, 0), (9, 0), (9, 0), (9, 0), (9, 0), (9, 0)] [] 190 σ59c := by
          intro N59
          induction N59 with
          | zero => intro i σ59c hm; exact absurd hm (Nat.not_lt_zero _)
          | succ N59 ih59 =>
            intro i σ59c hm59 hF59 hi hT59
            refine dk_iload (pc' := 61) hE dX11_seekCast_59 rfl rfl ?_
            refine dk_if_lt (tgt := 361) (pc' := 64) hE dX11_seekCast_61 (by decide) rfl (fun hc4 => ?_) (fun hc4 => ?_)
            · skip
              refine dk_aload_n (pc' := 362) hE dX11_seekCast_361 rfl rfl rfl ?_
              refine gf_11_68 (pc' := 365) (w := 182) hE fl_X11_137 dX11_seekCast_362 is_141 rfl rfl ?_
              refine dk_iconst (pc' := 366) hE dX11_seekCast_365 (by decide) rfl ?_
              refine ga_110 (pc' := 367) hE dX11_seekCast_366 is_182 (by omega) rfl (fun v5 hv5 htv5 hbv5 => ?_)
              refine dk_ldc2 (pc' := 370) hE dX11_seekCast_367 cs_X11_486 (by decide) rfl ?_
              refine dk_lcmp (pc' := 371) hE dX11_seekCast_370 rfl (fun v6 hv6 => ?_)
              refine dk_if_lt (tgt := 376) (pc' := 374) hE dX11_seekCast_371 (by decide) rfl (fun hc7 => ?_) (fun hc7 => ?_)
              · skip
                have gi8 : MI σ59c := MI_fr hG (fun k_ j_ h_ => by rw [hF59 k_ j_ (fpw32_3283619441 k_ j_ h_), hF3 k_ j_ (fpw32_2611390297 k_ j_ h_)])
                have hT0 : TB n (-1) 0 σ59c := (show i = -1 by omega) ▸ hT59
                have gi9 : MI σ59c := gi8
                refine dk_aload_n (pc' := 377) hE dX11_seekCast_376 rfl rfl rfl ?_
                refine dk_aload_n (pc' := 378) hE dX11_seekCast_377 rfl rfl rfl ?_
                refine gf_11_68 (pc' := 381) (w := 182) hE fl_X11_137 dX11_seekCast_378 is_141 rfl rfl ?_
                refine dk_iconst (pc' := 382) hE dX11_seekCast_381 (by decide) rfl ?_
                refine ga_110 (pc' := 383) hE dX11_seekCast_382 is_182 (by omega) rfl (fun v10 hv10 htv10 hbv10 => ?_)
                have hq10 : v5 = v10 := (show v10 = v5 by rw [hv10, hv5]).symm
                subst hq10
                clear htv10 hbv10
                refine pf_11_72 (pc' := 386) hE fl_X11_488 dX11_seekCast_383 is_141 trivial rfl (fun σ11 eσ11 => ?_)
                refine dk_aload_n (pc' := 387) hE dX11_seekCast_386 rfl rfl rfl ?_
                refine dk_aload_n (pc' := 388) hE dX11_seekCast_387 rfl rfl rfl ?_
                refine gf_11_69 (pc' := 391) (w := 183) hE fl_X11_140 dX11_seekCast_388 is_141 rfl rfl ?_
                refine dk_iconst (pc' := 392) hE dX11_seekCast_391 (by decide) rfl ?_
                refine ga_111 (pc' := 393) hE dX11_seekCast_392 is_183 (by omega) rfl (fun v12 hv12 htv12 hbv12 => ?_)
                refine pf_11_71 (pc' := 396) hE fl_X11_491 dX11_seekCast_393 is_141 trivial rfl (fun σ13 eσ13 => ?_)
                refine dk_iconst (pc' := 397) hE dX11_seekCast_396 (by decide) rfl ?_
                refine dk_istore (pc' := 399) (ls' := [(4, 141), (0, w), (0, q), (4, 178), (0, 0), (9, 0), (9, 0), (9, 0), (9, 0), (9, 0), (9, 0), (9, 0)]) hE dX11_seekCast_397 rfl (by decide) rfl ?_
                refine dk_iconst (pc' := 400) hE dX11_seekCast_399 (by decide) rfl ?_
                refine dk_istore (pc' := 402) (ls' := [(4, 141), (0, w), (0, q), (4, 178), (0, 0), (0, 0), (9, 0), (9, 0), (9, 0), (9, 0), (9, 0), (9, 0)]) hE dX11_seekCast_400 rfl (by decide) rfl ?_
                have lp402 : ∀ (N_ : Nat) (m i : Int) (σ402c : dkS), (n - i).toNat < N_ → ((∀ k_ j_ : Int, ¬ (k_ = 178) → σ402c k_ j_ = σ13 k_ j_)) → (0 ≤ m ∧ m ≤ 1023 ∧ 0 ≤ i ∧ i ≤ n) → (σ402c 182 (1024 * i + m) < 1000000000000000) → (TB n (-1) 0 σ402c) → dk_PJ E 402 [(4, 141), (0, w), (0, q), (4, 178), (0, m), (0, i), (9, 0), (9, 0), (9, 0), (9, 0), (9, 0), (9, 0)] [] 190 σ402c := by
                  intro N402
                  induction N402 with
                  | zero => intro m i σ402c hm; exact absurd hm (Nat.not_lt_zero _)
                  | succ N402 ih402 =>
                    intro m i σ402c hm402 hF402 hmi hl hT402
                    refine dk_iload (pc' := 404) hE dX11_seekCast_402 rfl rfl ?_
                    refine dk_aload_n (pc' := 405) hE dX11_seekCast_404 rfl rfl rfl ?_
                    refine gf_11_70 (pc' := 408) hE fl_X11_483 dX11_seekCast_405 is_141 rfl (fun v14 hv14 htv14 hbv14 => ?_)
                    have hq14 : n = v14 := (show v14 = n by rw [hv14, hF402 141 70 (by omega), eσ13, dk_up_n (show ¬ (141 = 141 ∧ 70 = 71) by omega), eσ11, dk_up_n (show ¬ (141 = 141 ∧ 70 = 72) by omega), hF59 141 70 (by omega), hv2]).symm
                    subst hq14
                    refine dk_icmp_ge (tgt := 461) (pc' := 411) hE dX11_seekCast_408 (by decide) rfl (fun hc15 => ?_) (fun hc15 => ?_)
                    · skip
                      refine dk_iconst (pc' := 462) hE dX11_seekCast_461 (by decide) rfl ?_
                      exact dk_zret (st := []) hE hR dX11_seekCast_462 (by omega) ⟨_, rfl, (fun k_ j_ h_ => by rw [hF402 k_ j_ (fun w_ => h_ (Or.inr (Or.inr (Or.inr (w_))))), eσ13, dk_up_n (show ¬ (k_ = 141 ∧ j_ = 71) from fun q_ => h_ (Or.inl (q_))), eσ11, dk_up_n (show ¬ (k_ = 141 ∧ j_ = 72) from fun q_ => h_ (Or.inr (Or.inl (q_)))), hF59 k_ j_ (fun w_ => h_ (Or.inr (Or.inr (Or.inl (w_))))), hF3 k_ j_ (fun w_ => h_ (Or.inr (Or.inr (Or.inl (dk_wrr (lo := 181) (hi := 183) w_ (by decide) (by decide))))))]), by omega⟩
                    · skip
                      refine dk_aload_n (pc' := 412) hE dX11_seekCast_411 rfl rfl rfl ?_
                      refine dk_aload_n (pc' := 413) hE dX11_seekCast_412 rfl rfl rfl ?_
                      refine gf_11_66 (pc' := 416) (w := 180) hE fl_X11_131 dX11_seekCast_413 is_141 rfl rfl ?_
                      refine dk_iload (pc' := 418) hE dX11_seekCast_416 rfl rfl ?_
                      refine ga_108 (pc' := 419) hE dX11_seekCast_418 is_180 (by omega) rfl (fun v16 hv16 htv16 hbv16 => ?_)
                      refine dk_aload_n (pc' := 420) hE dX11_seekCast_419 rfl rfl rfl ?_
                      refine gf_11_67 (pc' := 423) (w := 181) hE fl_X11_134 dX11_seekCast_420 is_141 rfl rfl ?_
                      refine dk_sipush (pc' := 426) hE dX11_seekCast_423 (by decide) rfl ?_
                      refine dk_iload (pc' := 428) hE dX11_seekCast_426 rfl rfl ?_
                      obtain ⟨v17, hv17⟩ : ∃ z : Int, z = 1024 * i := ⟨_, rfl⟩
                      refine dk_imul (pc' := 429) hE dX11_seekCast_428 hv17.symm (by omega) rfl ?_
                      refine dk_iload (pc' := 431) hE dX11_seekCast_429 rfl rfl ?_
                      obtain ⟨v18, hv18⟩ : ∃ z : Int, z = v17 + m := ⟨_, rfl⟩
                      refine dk_iadd (pc' := 432) hE dX11_seekCast_431 hv18.symm (by omega) rfl ?_
                      refine ga_109 (pc' := 433) hE dX11_seekCast_432 is_181 (by omega) rfl (fun v19 hv19 htv19 hbv19 => ?_)
                      obtain ⟨b, s, q1, q2, q3, q4, q5, q6, q7, q8⟩ := hT402.2 i m (by omega) (by omega) (by omega) (by omega) hl
                      rw [show 1024 * i + m = v18 by omega, ← hv19] at q1
                      subst q1
                      refine pa_106 (pc' := 434) hE dX11_seekCast_433 is_178 (by omega) trivial rfl (fun σ20 eσ20 => ?_)
                      refine dk_iload (pc' := 436) hE dX11_seekCast_434 rfl rfl ?_
                      refine dk_iconst (pc' := 437) hE dX11_seekCast_436 (by decide) rfl ?_
                      refine dk_aload_n (pc' := 438) hE dX11_seekCast_437 rfl rfl rfl ?_
                      refine gf_11_67 (pc' := 441) (w := 181) hE fl_X11_134 dX11_seekCast_438 is_141 rfl rfl ?_
                      refine dk_sipush (pc' := 444) hE dX11_seekCast_441 (by decide) rfl ?_
                      refine dk_iload (pc' := 446) hE dX11_seekCast_444 rfl rfl ?_
                      obtain ⟨v21, hv21⟩ : ∃ z : Int, z = 1024 * i := ⟨_, rfl⟩
                      refine dk_imul (pc' := 447) hE dX11_seekCast_446 hv21.symm (by omega) rfl ?_
                      refine dk_iload (pc' := 449) hE dX11_seekCast_447 rfl rfl ?_
                      obtain ⟨v22, hv22⟩ : ∃ z : Int, z = v21 + m := ⟨_, rfl⟩
                      refine dk_iadd (pc' := 450) hE dX11_seekCast_449 hv22.symm (by omega) rfl ?_
                      have hrnv22 : v18 = v22 := by omega
                      subst hrnv22
                      refine ga_109 (pc' := 451) hE dX11_seekCast_450 is_181 (by omega) rfl (fun v23 hv23 htv23 hbv23 => ?_)
                      have hq23 : v19 = v23 := (show v23 = v19 by rw [hv23, eσ20, dk_up_n (show ¬ (181 = 178 ∧ v18 = v16) by omega), hv19]).symm
                      subst hq23
                      clear htv23 hbv23
                      refine dk_ishl (pc' := 452) hE dX11_seekCast_451 rfl (fun v24 hv24 ev24 => ?_)
                      have hS1 := ev24
                      refine dk_ior (pc' := 453) hE dX11_seekCast_452 rfl (fun v25 hv25 ev25 => ?_)
                      have hM : v25 = m + s := by rw [ev25, hS1, ← q4]; exact q5
                      refine dk_istore (pc' := 455) (ls' := [(4, 141), (0, w), (0, q), (4, 178), (0, v25), (0, i), (9, 0), (9, 0), (9, 0), (9, 0), (9, 0), (9, 0)]) hE dX11_seekCast_453 rfl (by decide) rfl ?_
                      obtain ⟨v26, hv26⟩ : ∃ z : Int, z = i + 1 := ⟨_, rfl⟩
                      refine dk_iinc (pc' := 458) (ls' := [(4, 141), (0, w), (0, q), (4, 178), (0, v25), (0, v26), (9, 0), (9, 0), (9, 0), (9, 0), (9, 0), (9, 0)]) hE dX11_seekCast_455 rfl hv26.symm (by omega) rfl (by decide) rfl ?_
                      refine dk_goto (tgt := 402) hE dX11_seekCast_458 (by decide) ?_
                      exact ih402 v25 v26 σ20 (by omega) (fun k_ j_ h_ => by rw [eσ20, dk_up_n (show ¬ (k_ = 178 ∧ j_ = v16) from fun q_ => h_ (q_.1)), hF402 k_ j_ (fun w_ => h_ (w_))]) (by omega) (by first | (rw [show (1024 * 0 + 0 : Int) = 0 from rfl, eσ20, dk_up_n (show ¬ (182 = 178 ∧ 0 = v16) by omega), hF402 182 0 (by omega), eσ13, dk_up_n (show ¬ (182 = 141 ∧ 0 = 71) by omega), eσ11, dk_up_n (show ¬ (182 = 141 ∧ 0 = 72) by omega)]; omega) | (have e_ := (fun j_ => (by rw [eσ20, dk_up_n (show ¬ (182 = 178 ∧ j_ = v16) by omega)] : σ20 182 j_ = σ402c 182 j_)) (1024 * i + m + 1024 + s); rw [show 1024 * v26 + v25 = 1024 * i + m + 1024 + s by omega, e_]; exact q8)) (by first | exact TB_fr hT402 (fun k_ j_ h_ => by rw [eσ20, dk_up_n (show ¬ (k_ = 178 ∧ j_ = v16) by omega)]) | exact TB_fr hT0 (fun k_ j_ h_ => by rw [eσ20, dk_up_n (show ¬ (k_ = 178 ∧ j_ = v16) by omega), hF402 k_ j_ (by omega), eσ13, dk_up_n (show ¬ (k_ = 141 ∧ j_ = 71) by omega), eσ11, dk_up_n (show ¬ (k_ = 141 ∧ j_ = 72) by omega)]))
                exact lp402 _ 0 0 σ13 (Nat.lt_succ_self _) (fun k_ j_ h_ => rfl) (by omega) (by first | (rw [show (1024 * 0 + 0 : Int) = 0 from rfl, eσ13, dk_up_n (show ¬ (182 = 141 ∧ 0 = 71) by omega), eσ11, dk_up_n (show ¬ (182 = 141 ∧ 0 = 72) by omega)]; omega) | (have e_ := (fun j_ => (by rw [show True from trivial] : σ13 182 j_ = σ402c 182 j_)) (1024 * i + m + 1024 + s); rw [show 1024 * 0 + 0 = 1024 * i + m + 1024 + s by omega, e_]; exact q8)) (by first | exact TB_fr hT402 (fun k_ j_ h_ => by rw [show True from trivial]) | exact TB_fr hT0 (fun k_ j_ h_ => by rw [eσ13, dk_up_n (show ¬ (k_ = 141 ∧ j_ = 71) by omega), eσ11, dk_up_n (show ¬ (k_ = 141 ∧ j_ = 72) by omega)]))
              · skip
                refine dk_iconst (pc' := 375) hE dX11_seekCast_374 (by decide) rfl ?_
                exact dk_zret (st := []) hE hR dX11_seekCast_375 (by omega) ⟨_, rfl, (fun k_ j_ h_ => by rw [hF59 k_ j_ (fun w_ => h_ (Or.inr (Or.inr (Or.inl (w_))))), hF3 k_ j_ (fun w_ => h_ (Or.inr (Or.inr (Or.inl (dk_wrr (lo := 181) (hi := 183) w_ (by decide) (by decide))))))]), by omega⟩
            · skip
              refine dk_aload_n (pc' := 65) hE dX11_seekCast_64 rfl rfl rfl ?_
              refine gf_11_66 (pc' := 68) (w := 180) hE fl_X11_131 dX11_seekCast_65 is_141 rfl rfl ?_
              refine dk_iload (pc' := 70) hE dX11_seekCast_68 rfl rfl ?_
              refine ga_108 (pc' := 71) hE dX11_seekCast_70 is_180 (by omega) rfl (fun v27 hv27 htv27 hbv27 => ?_)
              refine dk_istore (pc' := 73) (ls' := [(4, 141), (0, w), (0, q), (4, 178), (0, i), (0, v27), (9, 0), (9, 0), (9, 0), (9, 0), (9, 0), (9, 0)]) hE dX11_seekCast_71 rfl (by decide) rfl ?_
              refine dk_iconst (pc' := 74) hE dX11_seekCast_73 (by decide) rfl ?_
              refine dk_istore (pc' := 76) (ls' := [(4, 141), (0, w), (0, q), (4, 178), (0, i), (0, v27), (0, 0), (9, 0), (9, 0), (9, 0), (9, 0), (9, 0)]) hE dX11_seekCast_74 rfl (by decide) rfl ?_
              have lp76 : ∀ (N_ : Nat) (m : Int) (σ76c : dkS), (1025 - m).toNat < N_ → ((∀ k_ j_ : Int, ¬ ((181 ≤ k_ ∧ k_ ≤ 183)) → σ76c k_ j_ = σ59c k_ j_)) → (0 ≤ m ∧ m ≤ 1024) → (TB n i m σ76c) → dk_PJ E 76 [(4, 141), (0, w), (0, q), (4, 178), (0, i), (0, v27), (0, m), (9, 0), (9, 0), (9, 0), (9, 0), (9, 0)] [] 190 σ76c := by
                intro N76
                induction N76 with
                | zero => intro m σ76c hm; exact absurd hm (Nat.not_lt_zero _)
                | succ N76 ih76 =>
                  intro m σ76c hm76 hF76 hm hT76
                  refine dk_iload (pc' := 78) hE dX11_seekCast_76 rfl rfl ?_
                  refine dk_sipush (pc' := 81) hE dX11_seekCast_78 (by decide) rfl ?_
                  refine dk_icmp_ge (tgt := 355) (pc' := 84) hE dX11_seekCast_81 (by decide) rfl (fun hc28 => ?_) (fun hc28 => ?_)
                  · skip
                    obtain ⟨v29, hv29⟩ : ∃ z : Int, z = i + (-1) := ⟨_, rfl⟩
                    refine dk_iinc (pc' := 358) (ls' := [(4, 141), (0, w), (0, q), (4, 178), (0, v29), (0, v27), (0, m), (9, 0), (9, 0), (9, 0), (9, 0), (9, 0)]) hE dX11_seekCast_355 rfl hv29.symm (by omega) rfl (by decide) rfl ?_
                    refine dk_goto (tgt := 59) hE dX11_seekCast_358 (by decide) ?_
                    refine dk_drop (ls' := [(4, 141), (0, w), (0, q), (4, 178), (0, v29), (9, 0), (9, 0), (9, 0), (9, 0), (9, 0), (9, 0), (9, 0)]) [true, true, true, true, true, false, false, false, false, false, false, false] rfl ?_
                    exact ih59 v29 σ76c (by omega) (fun k_ j_ h_ => by rw [hF76 k_ j_ (fun w_ => h_ (w_)), hF59 k_ j_ (fun w_ => h_ (w_))]) (by omega) (by first | (rw [show v29 = i - 1 by omega]; exact TB_row hT76 (by omega)) | (rw [show v29 = n - 1 by omega]; exact TB_0 (fun q_ a_ b_ => hz q_ a_ (by omega))))
                  · skip
                    refine dk_sipush (pc' := 87) hE dX11_seekCast_84 (by decide) rfl ?_
                    refine dk_iload (pc' := 89) hE dX11_seekCast_87 rfl rfl ?_
                    obtain ⟨v30, hv30⟩ : ∃ z : Int, z = 1024 * i := ⟨_, rfl⟩
                    refine dk_imul (pc' := 90) hE dX11_seekCast_89 hv30.symm (by omega) rfl ?_
                    refine dk_iload (pc' := 92) hE dX11_seekCast_90 rfl rfl ?_
                    obtain ⟨v31, hv31⟩ : ∃ z : Int, z = v30 + m := ⟨_, rfl⟩
                    refine dk_iadd (pc' := 93) hE dX11_seekCast_92 hv31.symm (by omega) rfl ?_
                    refine dk_istore (pc' := 95) (ls' := [(4, 141), (0, w), (0, q), (4, 178), (0, i), (0, v27), (0, m), (0, v31), (9, 0), (9, 0), (9, 0), (9, 0)]) hE dX11_seekCast_93 rfl (by decide) rfl ?_
                    refine dk_aload_n (pc' := 96) hE dX11_seekCast_95 rfl rfl rfl ?_
                    refine gf_11_68 (pc' := 99) (w := 182) hE fl_X11_137 dX11_seekCast_96 is_141 rfl rfl ?_
                    refine dk_iload (pc' := 101) hE dX11_seekCast_99 rfl rfl ?_
                    refine dk_ldc2 (pc' := 104) hE dX11_seekCast_101 cs_X11_486 (by decide) rfl ?_
                    refine pa_110 (pc' := 105) hE dX11_seekCast_104 is_182 (by omega) trivial rfl (fun σ32 eσ32 => ?_)
                    refine dk_aload_n (pc' := 106) hE dX11_seekCast_105 rfl rfl rfl ?_
                    refine gf_11_69 (pc' := 109) (w := 183) hE fl_X11_140 dX11_seekCast_106 is_141 rfl rfl ?_
                    refine dk_iload (pc' := 111) hE dX11_seekCast_109 rfl rfl ?_
                    refine dk_bipush (pc' := 113) hE dX11_seekCast_111 (by decide) rfl ?_
                    refine pa_111 (pc' := 114) hE dX11_seekCast_113 is_183 (by omega) trivial rfl (fun σ33 eσ33 => ?_)
                    refine dk_aload_n (pc' := 115) hE dX11_seekCast_114 rfl rfl rfl ?_
                    refine gf_11_67 (pc' := 118) (w := 181) hE fl_X11_134 dX11_seekCast_115 is_141 rfl rfl ?_
                    refine dk_iload (pc' := 120) hE dX11_seekCast_118 rfl rfl ?_
                    refine dk_iconst (pc' := 121) hE dX11_seekCast_120 (by decide) rfl ?_
                    refine pa_109 (pc' := 122) hE dX11_seekCast_121 is_181 (by omega) (by omega) rfl (fun σ34 eσ34 => ?_)
                    refine dk_iconst (pc' := 123) hE dX11_seekCast_122 (by decide) rfl ?_
                    refine dk_istore (pc' := 125) (ls' := [(4, 141), (0, w), (0, q), (4, 178), (0, i), (0, v27), (0, m), (0, v31), (0, 0), (9, 0), (9, 0), (9, 0)]) hE dX11_seekCast_123 rfl (by decide) rfl ?_
                    have lp125 : ∀ (N_ : Nat) (b : Int) (σ125c : dkS), (2147483648 - b).toNat < N_ → ((∀ k_ j_ : Int, ¬ ((181 ≤ k_ ∧ k_ ≤ 183)) → σ125c k_ j_ = σ34 k_ j_)) → (0 ≤ b) → (TB n i (m + 1) σ125c) → dk_PJ E 125 [(4, 141), (0, w), (0, q), (4, 178), (0, i), (0, v27), (0, m), (0, v31), (0, b), (9, 0), (9, 0), (9, 0)] [] 190 σ125c := by
                      intro N125
                      induction N125 with
                      | zero => intro b σ125c hm; exact absurd hm (Nat.not_lt_zero _)
                      | succ N125 ih125 =>
                        intro b σ125c hm125 hF125 hb hT125
                        refine dk_iload (pc' := 127) hE dX11_seekCast_125 rfl rfl ?_
                        refine dk_aload_n (pc' := 128) hE dX11_seekCast_127 rfl rfl rfl ?_
                        refine gf_11_52 (pc' := 131) hE fl_X11_416 dX11_seekCast_128 is_141 rfl (fun v35 hv35 htv35 hbv35 => ?_)
                        refine dk_icmp_ge (tgt := 349) (pc' := 134) hE dX11_seekCast_131 (by decide) rfl (fun hc36 => ?_) (fun hc36 => ?_)
                        · skip
                          obtain ⟨v37, hv37⟩ : ∃ z : Int, z = m + 1 := ⟨_, rfl⟩
                          refine dk_iinc (pc' := 352) (ls' := [(4, 141), (0, w), (0, q), (4, 178), (0, i), (0, v27), (0, v37), (0, v31), (0, b), (9, 0), (9, 0), (9, 0)]) hE dX11_seekCast_349 rfl hv37.symm (by omega) rfl (by decide) rfl ?_
                          refine dk_goto (tgt := 76) hE dX11_seekCast_352 (by decide) ?_
                          refine dk_drop (ls' := [(4, 141), (0, w), (0, q), (4, 178), (0, i), (0, v27), (0, v37), (9, 0), (9, 0), (9, 0), (9, 0), (9, 0)]) [true, true, true, true, true, true, true, false, false, false, false, false] rfl ?_
                          exact ih76 v37 σ125c (by omega) (fun k_ j_ h_ => by rw [hF125 k_ j_ (fun w_ => h_ (w_)), eσ34, dk_up_n (show ¬ (k_ = 181 ∧ j_ = v31) from fun q_ => h_ (dk_wr (lo := 181) (hi := 183) q_.1 (by decide))), eσ33, dk_up_n (show ¬ (k_ = 183 ∧ j_ = v31) from fun q_ => h_ (dk_wr (lo := 181) (hi := 183) q_.1 (by decide))), eσ32, dk_up_n (show ¬ (k_ = 182 ∧ j_ = v31) from fun q_ => h_ (dk_wr (lo := 181) (hi := 183) q_.1 (by decide))), hF76 k_ j_ (fun w_ => h_ (w_))]) (by omega) (by first | exact hT59 | (rw [show v37 = m + 1 by omega]; exact hT125))
                        · skip
                          refine dk_iload (pc' := 136) hE dX11_seekCast_134 rfl rfl ?_
                          refine dk_iload_n (pc' := 137) hE dX11_seekCast_136 rfl rfl rfl ?_
                          refine dk_icmp_eq (tgt := 343) (pc' := 140) hE dX11_seekCast_137 (by decide) rfl (fun hc38 => ?_) (fun hc38 => ?_)
                          · skip
                            obtain ⟨v39, hv39⟩ : ∃ z : Int, z = b + 1 := ⟨_, rfl⟩
                            refine dk_iinc (pc' := 346) (ls' := [(4, 141), (0, w), (0, q), (4, 178), (0, i), (0, v27), (0, m), (0, v31), (0, v39), (9, 0), (9, 0), (9, 0)]) hE dX11_seekCast_343 rfl hv39.symm (by omega) rfl (by decide) rfl ?_
                            refine dk_goto (tgt := 125) hE dX11_seekCast_346 (by decide) ?_
                            exact ih125 v39 σ125c (by omega) (fun k_ j_ h_ => by rw [hF125 k_ j_ (fun w_ => h_ (w_))]) (by omega) (by first | exact hT125 | exact TB_set hT125 (by omega) (by omega) (by omega) (by omega) hS hC (by omega) eσ33 eσ34 rfl | exact TB_init hT76 (by omega) (by omega) (by omega) eσ33 eσ34 rfl)
                          · skip
                            refine dk_iload (pc' := 142) hE dX11_seekCast_140 rfl rfl ?_
                            refine dk_iload (pc' := 144) hE dX11_seekCast_142 rfl rfl ?_
                            refine dk_ishr (pc' := 145) hE dX11_seekCast_144 rfl (fun v40 hv40 ev40 => ?_)
                            have hA := ev40
                            refine dk_iconst (pc' := 146) hE dX11_seekCast_145 (by decide) rfl ?_
                            refine dk_iand (pc' := 147) hE dX11_seekCast_146 rfl (fun v41 hv41 ev41 => ?_)
                            have hB := ev41
                            refine dk_iconst (pc' := 148) hE dX11_seekCast_147 (by decide) rfl ?_
                            refine dk_icmp_eq (tgt := 343) (pc' := 151) hE dX11_seekCast_148 (by decide) rfl (fun hc42 => ?_) (fun hc42 => ?_)
                            · skip
                              obtain ⟨v43, hv43⟩ : ∃ z : Int, z = b + 1 := ⟨_, rfl⟩
                              refine dk_iinc (pc' := 346) (ls' := [(4, 141), (0, w), (0, q), (4, 178), (0, i), (0, v27), (0, m), (0, v31), (0, v43), (9, 0), (9, 0), (9, 0)]) hE dX11_seekCast_343 rfl hv43.symm (by omega) rfl (by decide) rfl ?_
                              refine dk_goto (tgt := 125) hE dX11_seekCast_346 (by decide) ?_
                              exact ih125 v43 σ125c (by omega) (fun k_ j_ h_ => by rw [hF125 k_ j_ (fun w_ => h_ (w_))]) (by omega) (by first | exact hT125 | exact TB_set hT125 (by omega) (by omega) (by omega) (by omega) hS hC (by omega) eσ33 eσ34 rfl | exact TB_init hT76 (by omega) (by omega) (by omega) eσ33 eσ34 rfl)
                            · skip
                              refine dk_aload_n (pc' := 152) hE dX11_seekCast_151 rfl rfl rfl ?_
                              refine gf_11_62 (pc' := 155) (w := 176) hE fl_X11_119 dX11_seekCast_152 is_141 rfl rfl ?_
                              refine dk_bipush (pc' := 157) hE dX11_seekCast_155 (by decide) rfl ?_
                              refine dk_iload (pc' := 159) hE dX11_seekCast_157 rfl rfl ?_
                              obtain ⟨v44, hv44⟩ : ∃ z : Int, z = 10 * v27 := ⟨_, rfl⟩
                              refine dk_imul (pc' := 160) hE dX11_seekCast_159 hv44.symm (by omega) rfl ?_
                              refine dk_iload (pc' := 162) hE dX11_seekCast_160 rfl rfl ?_
                              obtain ⟨v45, hv45⟩ : ∃ z : Int, z = v44 + b := ⟨_, rfl⟩
                              refine dk_iadd (pc' := 163) hE dX11_seekCast_162 hv45.symm (by omega) rfl ?_
                              refine ga_104 (pc' := 164) hE dX11_seekCast_163 is_176 (by omega) rfl (fun v46 hv46 htv46 hbv46 => ?_)
                              refine dk_if_eq (tgt := 343) (pc' := 167) hE dX11_seekCast_164 (by decide) rfl (fun hc47 => ?_) (fun hc47 => ?_)
                              · skip
                                obtain ⟨v48, hv48⟩ : ∃ z : Int, z = b + 1 := ⟨_, rfl⟩
                                refine dk_iinc (pc' := 346) (ls' := [(4, 141), (0, w), (0, q), (4, 178), (0, i), (0, v27), (0, m), (0, v31), (0, v48), (9, 0), (9, 0), (9, 0)]) hE dX11_seekCast_343 rfl hv48.symm (by omega) rfl (by decide) rfl ?_
                                refine dk_goto (tgt := 125) hE dX11_seekCast_346 (by decide) ?_
                                exact ih125 v48 σ125c (by omega) (fun k_ j_ h_ => by rw [hF125 k_ j_ (fun w_ => h_ (w_))]) (by omega) (by first | exact hT125 | exact TB_set hT125 (by omega) (by omega) (by omega) (by omega) hS hC (by omega) eσ33 eσ34 rfl | exact TB_init hT76 (by omega) (by omega) (by omega) eσ33 eσ34 rfl)
                              · skip
                                refine dk_aload_n (pc' := 168) hE dX11_seekCast_167 rfl rfl rfl ?_
                                refine gf_11_68 (pc' := 171) (w := 182) hE fl_X11_137 dX11_seekCast_168 is_141 rfl rfl ?_
                                refine dk_iload (pc' := 173) hE dX11_seekCast_171 rfl rfl ?_
                                refine dk_sipush (pc' := 176) hE dX11_seekCast_173 (by decide) rfl ?_
                                obtain ⟨v49, hv49⟩ : ∃ z : Int, z = v31 + 1024 := ⟨_, rfl⟩
                                refine dk_iadd (pc' := 177) hE dX11_seekCast_176 hv49.symm (by omega) rfl ?_
                                refine dk_iconst (pc' := 178) hE dX11_seekCast_177 (by decide) rfl ?_
                                refine dk_iload (pc' := 180) hE dX11_seekCast_178 rfl rfl ?_
                                refine dk_ishl (pc' := 181) hE dX11_seekCast_180 rfl (fun v50 hv50 ev50 => ?_)
                                have hC := dk_bit (by omega) (by omega) hA hB (by omega) ev50
                                have hS := ev50
                                obtain ⟨s, hs⟩ : ∃ s : Int, s = v50 := ⟨_, rfl⟩
                                rw [← hs] at hC hS
                                obtain ⟨v51, hv51⟩ : ∃ z : Int, z = v49 + v50 := ⟨_, rfl⟩
                                refine dk_iadd (pc' := 182) hE dX11_seekCast_181 hv51.symm (by omega) rfl ?_
                                refine ga_110 (pc' := 183) hE dX11_seekCast_182 is_182 (by omega) rfl (fun v52 hv52 htv52 hbv52 => ?_)
                                have hch : σ125c 182 (1024 * i + m + 1024 + s) = v52 := by rw [show 1024 * i + m + 1024 + s = v51 by omega]; exact hv52.symm
                                refine dk_ldc2 (pc' := 186) hE dX11_seekCast_183 cs_X11_486 (by decide) rfl ?_
                                refine dk_lcmp (pc' := 187) hE dX11_seekCast_186 rfl (fun v53 hv53 => ?_)
                                refine dk_if_lt (tgt := 193) (pc' := 190) hE dX11_seekCast_187 (by decide) rfl (fun hc54 => ?_) (fun hc54 => ?_)
                                · skip
                                  refine dk_aload_n (pc' := 194) hE dX11_seekCast_193 rfl rfl rfl ?_
                                  refine gf_11_63 (pc' := 197) (w := 177) hE fl_X11_122 dX11_seekCast_194 is_141 rfl rfl ?_
                                  refine dk_bipush (pc' := 199) hE dX11_seekCast_197 (by decide) rfl ?_
                                  refine dk_iload (pc' := 201) hE dX11_seekCast_199 rfl rfl ?_
                                  obtain ⟨v55, hv55⟩ : ∃ z : Int, z = 10 * v27 := ⟨_, rfl⟩
                                  refine dk_imul (pc' := 202) hE dX11_seekCast_201 hv55.symm (by omega) rfl ?_
                                  refine dk_iload (pc' := 204) hE dX11_seekCast_202 rfl rfl ?_
                                  obtain ⟨v56, hv56⟩ : ∃ z : Int, z = v55 + b := ⟨_, rfl⟩
                                  refine dk_iadd (pc' := 205) hE dX11_seekCast_204 hv56.symm (by omega) rfl ?_
                                  refine ga_105 (pc' := 206) hE dX11_seekCast_205 is_177 (by omega) rfl (fun v57 hv57 htv57 hbv57 => ?_)
                                  refine dk_i2l (pc' := 207) hE dX11_seekCast_206 rfl ?_
                                  refine dk_aload_n (pc' := 208) hE dX11_seekCast_207 rfl rfl rfl ?_
                                  refine gf_11_68 (pc' := 211) (w := 182) hE fl_X11_137 dX11_seekCast_208 is_141 rfl rfl ?_
                                  refine dk_iload (pc' := 213) hE dX11_seekCast_211 rfl rfl ?_
                                  refine dk_sipush (pc' := 216) hE dX11_seekCast_213 (by decide) rfl ?_
                                  obtain ⟨v58, hv58⟩ : ∃ z : Int, z = v31 + 1024 := ⟨_, rfl⟩
                                  refine dk_iadd (pc' := 217) hE dX11_seekCast_216 hv58.symm (by omega) rfl ?_
                                  refine dk_iconst (pc' := 218) hE dX11_seekCast_217 (by decide) rfl ?_
                                  refine dk_iload (pc' := 220) hE dX11_seekCast_218 rfl rfl ?_
                                  refine dk_ishl (pc' := 221) hE dX11_seekCast_220 rfl (fun v59 hv59 ev59 => ?_)
                                  have hD := ev59.trans hS.symm
                                  obtain ⟨v60, hv60⟩ : ∃ z : Int, z = v58 + v59 := ⟨_, rfl⟩
                                  refine dk_iadd (pc' := 222) hE dX11_seekCast_221 hv60.symm (by omega) rfl ?_
                                  refine ga_110 (pc' := 223) hE dX11_seekCast_222 is_182 (by omega) rfl (fun v61 hv61 htv61 hbv61 => ?_)
                                  refine dk_ladd (pc' := 224) hE dX11_seekCast_223 rfl (fun v62 hv62 _ => ?_)
                                  refine dk_lstore (pc' := 226) (ls' := [(4, 141), (0, w), (0, q), (4, 178), (0, i), (0, v27), (0, m), (0, v31), (0, b), (3, v62), (9, 0), (9, 0)]) hE dX11_seekCast_224 rfl (by decide) rfl ?_
                                  refine dk_iload_n (pc' := 227) hE dX11_seekCast_226 rfl rfl rfl ?_
                                  refine dk_if_eq (tgt := 246) (pc' := 230) hE dX11_seekCast_227 (by decide) rfl (fun hc63 => ?_) (fun hc63 => ?_)
                                  · skip
                                    refine dk_iconst (pc' := 247) hE dX11_seekCast_246 (by decide) rfl ?_
                                    refine dk_aload_n (pc' := 248) hE dX11_seekCast_247 rfl rfl rfl ?_
                                    refine gf_11_69 (pc' := 251) (w := 183) hE fl_X11_140 dX11_seekCast_248 is_141 rfl rfl ?_
                                    refine dk_iload (pc' := 253) hE dX11_seekCast_251 rfl rfl ?_
                                    refine dk_sipush (pc' := 256) hE dX11_seekCast_253 (by decide) rfl ?_
                                    obtain ⟨v64, hv64⟩ : ∃ z : Int, z = v31 + 1024 := ⟨_, rfl⟩
                                    refine dk_iadd (pc' := 257) hE dX11_seekCast_256 hv64.symm (by omega) rfl ?_
                                    refine dk_iconst (pc' := 258) hE dX11_seekCast_257 (by decide) rfl ?_
                                    refine dk_iload (pc' := 260) hE dX11_seekCast_258 rfl rfl ?_
                                    refine dk_ishl (pc' := 261) hE dX11_seekCast_260 rfl (fun v65 hv65 ev65 => ?_)
                                    have hF_ := ev65.trans hS.symm
                                    obtain ⟨v66, hv66⟩ : ∃ z : Int, z = v64 + v65 := ⟨_, rfl⟩
                                    refine dk_iadd (pc' := 262) hE dX11_seekCast_261 hv66.symm (by omega) rfl ?_
                                    refine ga_111 (pc' := 263) hE dX11_seekCast_262 is_183 (by omega) rfl (fun v67 hv67 htv67 hbv67 => ?_)
                                    refine dk_iaddW (pc' := 264) hE dX11_seekCast_263 rfl (fun v68 hv68 _ => ?_)
                                    refine dk_istore (pc' := 266) (ls' := [(4, 141), (0, w), (0, q), (4, 178), (0, i), (0, v27), (0, m), (0, v31), (0, b), (3, v62), (9, 0), (0, v68)]) hE dX11_seekCast_264 rfl (by decide) rfl ?_
                                    refine dk_aload_n (pc' := 267) hE dX11_seekCast_266 rfl rfl rfl ?_
                                    refine gf_11_67 (pc' := 270) (w := 181) hE fl_X11_134 dX11_seekCast_267 is_141 rfl rfl ?_
                                    refine dk_iload (pc' := 272) hE dX11_seekCast_270 rfl rfl ?_
                                    refine ga_109 (pc' := 273) hE dX11_seekCast_272 is_181 (by omega) rfl (fun v69 hv69 htv69 hbv69 => ?_)
                                    refine dk_if_lt (tgt := 316) (pc' := 276) hE dX11_seekCast_273 (by decide) rfl (fun hc70 => ?_) (fun hc70 => ?_)
                                    · skip
                                      refine dk_aload_n (pc' := 317) hE dX11_seekCast_316 rfl rfl rfl ?_
                                      refine gf_11_68 (pc' := 320) (w := 182) hE fl_X11_137 dX11_seekCast_317 is_141 rfl rfl ?_
                                      refine dk_iload (pc' := 322) hE dX11_seekCast_320 rfl rfl ?_
                                      refine dk_lload (pc' := 324) hE dX11_seekCast_322 rfl rfl ?_
                                      refine pa_110 (pc' := 325) hE dX11_seekCast_324 is_182 (by omega) trivial rfl (fun σ71 eσ71 => ?_)
                                      refine dk_aload_n (pc' := 326) hE dX11_seekCast_325 rfl rfl rfl ?_
                                      refine gf_11_69 (pc' := 329) (w := 183) hE fl_X11_140 dX11_seekCast_326 is_141 rfl rfl ?_
                                      refine dk_iload (pc' := 331) hE dX11_seekCast_329 rfl rfl ?_
                                      refine dk_iload (pc' := 333) hE dX11_seekCast_331 rfl rfl ?_
                                      refine pa_111 (pc' := 334) hE dX11_seekCast_333 is_183 (by omega) trivial rfl (fun σ72 eσ72 => ?_)
                                      refine dk_aload_n (pc' := 335) hE dX11_seekCast_334 rfl rfl rfl ?_
                                      refine gf_11_67 (pc' := 338) (w := 181) hE fl_X11_134 dX11_seekCast_335 is_141 rfl rfl ?_
                                      refine dk_iload (pc' := 340) hE dX11_seekCast_338 rfl rfl ?_
                                      refine dk_iload (pc' := 342) hE dX11_seekCast_340 rfl rfl ?_
                                      refine pa_109 (pc' := 343) hE dX11_seekCast_342 is_181 (by omega) (by omega) rfl (fun σ73 eσ73 => ?_)
                                      obtain ⟨v74, hv74⟩ : ∃ z : Int, z = b + 1 := ⟨_, rfl⟩
                                      refine dk_iinc (pc' := 346) (ls' := [(4, 141), (0, w), (0, q), (4, 178), (0, i), (0, v27), (0, m), (0, v31), (0, v74), (3, v62), (9, 0), (0, v68)]) hE dX11_seekCast_343 rfl hv74.symm (by omega) rfl (by decide) rfl ?_
                                      refine dk_goto (tgt := 125) hE dX11_seekCast_346 (by decide) ?_
                                      refine dk_drop (ls' := [(4, 141), (0, w), (0, q), (4, 178), (0, i), (0, v27), (0, m), (0, v31), (0, v74), (9, 0), (9, 0), (9, 0)]) [true, true, true, true, true, true, true, true, true, false, false, false] rfl ?_
                                      exact ih125 v74 σ73 (by omega) (fun k_ j_ h_ => by rw [eσ73, dk_up_n (show ¬ (k_ = 181 ∧ j_ = v31) from fun q_ => h_ (dk_wr (lo := 181) (hi := 183) q_.1 (by decide))), eσ72, dk_up_n (show ¬ (k_ = 183 ∧ j_ = v31) from fun q_ => h_ (dk_wr (lo := 181) (hi := 183) q_.1 (by decide))), eσ71, dk_up_n (show ¬ (k_ = 182 ∧ j_ = v31) from fun q_ => h_ (dk_wr (lo := 181) (hi := 183) q_.1 (by decide))), hF125 k_ j_ (fun w_ => h_ (w_))]) (by omega) (by first | exact hT125 | exact TB_set hT125 (by omega) (by omega) (by omega) (by omega) hS hC (by omega) eσ71 eσ72 eσ73 | exact TB_init hT76 (by omega) (by omega) (by omega) eσ71 eσ72 eσ73)
                                    · skip
                                      refine dk_iload (pc' := 278) hE dX11_seekCast_276 rfl rfl ?_
                                      refine dk_aload_n (pc' := 279) hE dX11_seekCast_278 rfl rfl rfl ?_
                                      refine gf_11_69 (pc' := 282) (w := 183) hE fl_X11_140 dX11_seekCast_279 is_141 rfl rfl ?_
                                      refine dk_iload (pc' := 284) hE dX11_seekCast_282 rfl rfl ?_
                                      refine ga_111 (pc' := 285) hE dX11_seekCast_284 is_183 (by omega) rfl (fun v75 hv75 htv75 hbv75 => ?_)
                                      refine dk_icmp_gt (tgt := 343) (pc' := 288) hE dX11_seekCast_285 (by decide) rfl (fun hc76 => ?_) (fun hc76 => ?_)
                                      · skip
                                        obtain ⟨v77, hv77⟩ : ∃ z : Int, z = b + 1 := ⟨_, rfl⟩
                                        refine dk_iinc (pc' := 346) (ls' := [(4, 141), (0, w), (0, q), (4, 178), (0, i), (0, v27), (0, m), (0, v31), (0, v77), (3, v62), (9, 0), (0, v68)]) hE dX11_seekCast_343 rfl hv77.symm (by omega) rfl (by decide) rfl ?_
                                        refine dk_goto (tgt := 125) hE dX11_seekCast_346 (by decide) ?_
                                        refine dk_drop (ls' := [(4, 141), (0, w), (0, q), (4, 178), (0, i), (0, v27), (0, m), (0, v31), (0, v77), (9, 0), (9, 0), (9, 0)]) [true, true, true, true, true, true, true, true, true, false, false, false] rfl ?_
                                        exact ih125 v77 σ125c (by omega) (fun k_ j_ h_ => by rw [hF125 k_ j_ (fun w_ => h_ (w_))]) (by omega) (by first | exact hT125 | exact TB_set hT125 (by omega) (by omega) (by omega) (by omega) hS hC (by omega) eσ33 eσ34 rfl | exact TB_init hT76 (by omega) (by omega) (by omega) eσ33 eσ34 rfl)
                                      · skip
                                        refine dk_iload (pc' := 290) hE dX11_seekCast_288 rfl rfl ?_
                                        refine dk_aload_n (pc' := 291) hE dX11_seekCast_290 rfl rfl rfl ?_
                                        refine gf_11_69 (pc' := 294) (w := 183) hE fl_X11_140 dX11_seekCast_291 is_141 rfl rfl ?_
                                        refine dk_iload (pc' := 296) hE dX11_seekCast_294 rfl rfl ?_
                                        refine ga_111 (pc' := 297) hE dX11_seekCast_296 is_183 (by omega) rfl (fun v78 hv78 htv78 hbv78 => ?_)
                                        have hq78 : v75 = v78 := (show v78 = v75 by rw [hv78, hv75]).symm
                                        subst hq78
                                        clear htv78 hbv78
                                        refine dk_icmp_ne (tgt := 316) (pc' := 300) hE dX11_seekCast_297 (by decide) rfl (fun hc79 => ?_) (fun hc79 => ?_)
                                        · skip
                                          refine dk_aload_n (pc' := 317) hE dX11_seekCast_316 rfl rfl rfl ?_
                                          refine gf_11_68 (pc' := 320) (w := 182) hE fl_X11_137 dX11_seekCast_317 is_141 rfl rfl ?_
                                          refine dk_iload (pc' := 322) hE dX11_seekCast_320 rfl rfl ?_
                                          refine dk_lload (pc' := 324) hE dX11_seekCast_322 rfl rfl ?_
                                          refine pa_110 (pc' := 325) hE dX11_seekCast_324 is_182 (by omega) trivial rfl (fun σ80 eσ80 => ?_)
                                          refine dk_aload_n (pc' := 326) hE dX11_seekCast_325 rfl rfl rfl ?_
                                          refine gf_11_69 (pc' := 329) (w := 183) hE fl_X11_140 dX11_seekCast_326 is_141 rfl rfl ?_
                                          refine dk_iload (pc' := 331) hE dX11_seekCast_329 rfl rfl ?_
                                          refine dk_iload (pc' := 333) hE dX11_seekCast_331 rfl rfl ?_
                                          refine pa_111 (pc' := 334) hE dX11_seekCast_333 is_183 (by omega) trivial rfl (fun σ81 eσ81 => ?_)
                                          refine dk_aload_n (pc' := 335) hE dX11_seekCast_334 rfl rfl rfl ?_
                                          refine gf_11_67 (pc' := 338) (w := 181) hE fl_X11_134 dX11_seekCast_335 is_141 rfl rfl ?_
                                          refine dk_iload (pc' := 340) hE dX11_seekCast_338 rfl rfl ?_
                                          refine dk_iload (pc' := 342) hE dX11_seekCast_340 rfl rfl ?_
                                          refine pa_109 (pc' := 343) hE dX11_seekCast_342 is_181 (by omega) (by omega) rfl (fun σ82 eσ82 => ?_)
                                          obtain ⟨v83, hv83⟩ : ∃ z : Int, z = b + 1 := ⟨_, rfl⟩
                                          refine dk_iinc (pc' := 346) (ls' := [(4, 141), (0, w), (0, q), (4, 178), (0, i), (0, v27), (0, m), (0, v31), (0, v83), (3, v62), (9, 0), (0, v68)]) hE dX11_seekCast_343 rfl hv83.symm (by omega) rfl (by decide) rfl ?_
                                          refine dk_goto (tgt := 125) hE dX11_seekCast_346 (by decide) ?_
                                          refine dk_drop (ls' := [(4, 141), (0, w), (0, q), (4, 178), (0, i), (0, v27), (0, m), (0, v31), (0, v83), (9, 0), (9, 0), (9, 0)]) [true, true, true, true, true, true, true, true, true, false, false, false] rfl ?_
                                          exact ih125 v83 σ82 (by omega) (fun k_ j_ h_ => by rw [eσ82, dk_up_n (show ¬ (k_ = 181 ∧ j_ = v31) from fun q_ => h_ (dk_wr (lo := 181) (hi := 183) q_.1 (by decide))), eσ81, dk_up_n (show ¬ (k_ = 183 ∧ j_ = v31) from fun q_ => h_ (dk_wr (lo := 181) (hi := 183) q_.1 (by decide))), eσ80, dk_up_n (show ¬ (k_ = 182 ∧ j_ = v31) from fun q_ => h_ (dk_wr (lo := 181) (hi := 183) q_.1 (by decide))), hF125 k_ j_ (fun w_ => h_ (w_))]) (by omega) (by first | exact hT125 | exact TB_set hT125 (by omega) (by omega) (by omega) (by omega) hS hC (by omega) eσ80 eσ81 eσ82 | exact TB_init hT76 (by omega) (by omega) (by omega) eσ80 eσ81 eσ82)
                                        · skip
                                          refine dk_lload (pc' := 302) hE dX11_seekCast_300 rfl rfl ?_
                                          refine dk_aload_n (pc' := 303) hE dX11_seekCast_302 rfl rfl rfl ?_
                                          refine gf_11_68 (pc' := 306) (w := 182) hE fl_X11_137 dX11_seekCast_303 is_141 rfl rfl ?_
                                          refine dk_iload (pc' := 308) hE dX11_seekCast_306 rfl rfl ?_
                                          refine ga_110 (pc' := 309) hE dX11_seekCast_308 is_182 (by omega) rfl (fun v84 hv84 htv84 hbv84 => ?_)
                                          refine dk_lcmp (pc' := 310) hE dX11_seekCast_309 rfl (fun v85 hv85 => ?_)
                                          refine dk_if_lt (tgt := 316) (pc' := 313) hE dX11_seekCast_310 (by decide) rfl (fun hc86 => ?_) (fun hc86 => ?_)
                                          · skip
                                            refine dk_aload_n (pc' := 317) hE dX11_seekCast_316 rfl rfl rfl ?_
                                            refine gf_11_68 (pc' := 320) (w := 182) hE fl_X11_137 dX11_seekCast_317 is_141 rfl rfl ?_
                                            refine dk_iload (pc' := 322) hE dX11_seekCast_320 rfl rfl ?_
                                            refine dk_lload (pc' := 324) hE dX11_seekCast_322 rfl rfl ?_
                                            refine pa_110 (pc' := 325) hE dX11_seekCast_324 is_182 (by omega) trivial rfl (fun σ87 eσ87 => ?_)
                                            refine dk_aload_n (pc' := 326) hE dX11_seekCast_325 rfl rfl rfl ?_
                                            refine gf_11_69 (pc' := 329) (w := 183) hE fl_X11_140 dX11_seekCast_326 is_141 rfl rfl ?_
                                            refine dk_iload (pc' := 331) hE dX11_seekCast_329 rfl rfl ?_
                                            refine dk_iload (pc' := 333) hE dX11_seekCast_331 rfl rfl ?_
                                            refine pa_111 (pc' := 334) hE dX11_seekCast_333 is_183 (by omega) trivial rfl (fun σ88 eσ88 => ?_)
                                            refine dk_aload_n (pc' := 335) hE dX11_seekCast_334 rfl rfl rfl ?_
                                            refine gf_11_67 (pc' := 338) (w := 181) hE fl_X11_134 dX11_seekCast_335 is_141 rfl rfl ?_
                                            refine dk_iload (pc' := 340) hE dX11_seekCast_338 rfl rfl ?_
                                            refine dk_iload (pc' := 342) hE dX11_seekCast_340 rfl rfl ?_
                                            refine pa_109 (pc' := 343) hE dX11_seekCast_342 is_181 (by omega) (by omega) rfl (fun σ89 eσ89 => ?_)
                                            obtain ⟨v90, hv90⟩ : ∃ z : Int, z = b + 1 := ⟨_, rfl⟩
                                            refine dk_iinc (pc' := 346) (ls' := [(4, 141), (0, w), (0, q), (4, 178), (0, i), (0, v27), (0, m), (0, v31), (0, v90), (3, v62), (9, 0), (0, v68)]) hE dX11_seekCast_343 rfl hv90.symm (by omega) rfl (by decide) rfl ?_
                                            refine dk_goto (tgt := 125) hE dX11_seekCast_346 (by decide) ?_
                                            refine dk_drop (ls' := [(4, 141), (0, w), (0, q), (4, 178), (0, i), (0, v27), (0, m), (0, v31), (0, v90), (9, 0), (9, 0), (9, 0)]) [true, true, true, true, true, true, true, true, true, false, false, false] rfl ?_
                                            exact ih125 v90 σ89 (by omega) (fun k_ j_ h_ => by rw [eσ89, dk_up_n (show ¬ (k_ = 181 ∧ j_ = v31) from fun q_ => h_ (dk_wr (lo := 181) (hi := 183) q_.1 (by decide))), eσ88, dk_up_n (show ¬ (k_ = 183 ∧ j_ = v31) from fun q_ => h_ (dk_wr (lo := 181) (hi := 183) q_.1 (by decide))), eσ87, dk_up_n (show ¬ (k_ = 182 ∧ j_ = v31) from fun q_ => h_ (dk_wr (lo := 181) (hi := 183) q_.1 (by decide))), hF125 k_ j_ (fun w_ => h_ (w_))]) (by omega) (by first | exact hT125 | exact TB_set hT125 (by omega) (by omega) (by omega) (by omega) hS hC (by omega) eσ87 eσ88 eσ89 | exact TB_init hT76 (by omega) (by omega) (by omega) eσ87 eσ88 eσ89)
                                          · skip
                                            refine dk_goto (tgt := 343) hE dX11_seekCast_313 (by decide) ?_
                                            obtain ⟨v91, hv91⟩ : ∃ z : Int, z = b + 1 := ⟨_, rfl⟩
                                            refine dk_iinc (pc' := 346) (ls' := [(4, 141), (0, w), (0, q), (4, 178), (0, i), (0, v27), (0, m), (0, v31), (0, v91), (3, v62), (9, 0), (0, v68)]) hE dX11_seekCast_343 rfl hv91.symm (by omega) rfl (by decide) rfl ?_
                                            refine dk_goto (tgt := 125) hE dX11_seekCast_346 (by decide) ?_
                                            refine dk_drop (ls' := [(4, 141), (0, w), (0, q), (4, 178), (0, i), (0, v27), (0, m), (0, v31), (0, v91), (9, 0), (9, 0), (9, 0)]) [true, true, true, true, true, true, true, true, true, false, false, false] rfl ?_
                                            exact ih125 v91 σ125c (by omega) (fun k_ j_ h_ => by rw [hF125 k_ j_ (fun w_ => h_ (w_))]) (by omega) (by first | exact hT125 | exact TB_set hT125 (by omega) (by omega) (by omega) (by omega) hS hC (by omega) eσ33 eσ34 rfl | exact TB_init hT76 (by omega) (by omega) (by omega) eσ33 eσ34 rfl)
                                  · skip
                                    refine dk_aload_n (pc' := 231) hE dX11_seekCast_230 rfl rfl rfl ?_
                                    refine gf_11_64 (pc' := 234) (w := 178) hE fl_X11_125 dX11_seekCast_231 is_141 rfl rfl ?_
                                    refine dk_iload (pc' := 236) hE dX11_seekCast_234 rfl rfl ?_
                                    refine ga_106 (pc' := 237) hE dX11_seekCast_236 is_178 (by omega) rfl (fun v92 hv92 htv92 hbv92 => ?_)
                                    refine dk_iload (pc' := 239) hE dX11_seekCast_237 rfl rfl ?_
                                    refine dk_icmp_eq (tgt := 246) (pc' := 242) hE dX11_seekCast_239 (by decide) rfl (fun hc93 => ?_) (fun hc93 => ?_)
                                    · skip
                                      refine dk_iconst (pc' := 247) hE dX11_seekCast_246 (by decide) rfl ?_
                                      refine dk_aload_n (pc' := 248) hE dX11_seekCast_247 rfl rfl rfl ?_
                                      refine gf_11_69 (pc' := 251) (w := 183) hE fl_X11_140 dX11_seekCast_248 is_141 rfl rfl ?_
                                      refine dk_iload (pc' := 253) hE dX11_seekCast_251 rfl rfl ?_
                                      refine dk_sipush (pc' := 256) hE dX11_seekCast_253 (by decide) rfl ?_
                                      obtain ⟨v94, hv94⟩ : ∃ z : Int, z = v31 + 1024 := ⟨_, rfl⟩
                                      refine dk_iadd (pc' := 257) hE dX11_seekCast_256 hv94.symm (by omega) rfl ?_
                                      refine dk_iconst (pc' := 258) hE dX11_seekCast_257 (by decide) rfl ?_
                                      refine dk_iload (pc' := 260) hE dX11_seekCast_258 rfl rfl ?_
                                      refine dk_ishl (pc' := 261) hE dX11_seekCast_260 rfl (fun v95 hv95 ev95 => ?_)
                                      have hF_ := ev95.trans hS.symm
                                      obtain ⟨v96, hv96⟩ : ∃ z : Int, z = v94 + v95 := ⟨_, rfl⟩
                                      refine dk_iadd (pc' := 262) hE dX11_seekCast_261 hv96.symm (by omega) rfl ?_
                                      refine ga_111 (pc' := 263) hE dX11_seekCast_262 is_183 (by omega) rfl (fun v97 hv97 htv97 hbv97 => ?_)
                                      refine dk_iaddW (pc' := 264) hE dX11_seekCast_263 rfl (fun v98 hv98 _ => ?_)
                                      refine dk_istore (pc' := 266) (ls' := [(4, 141), (0, w), (0, q), (4, 178), (0, i), (0, v27), (0, m), (0, v31), (0, b), (3, v62), (9, 0), (0, v98)]) hE dX11_seekCast_264 rfl (by decide) rfl ?_
                                      refine dk_aload_n (pc' := 267) hE dX11_seekCast_266 rfl rfl rfl ?_
                                      refine gf_11_67 (pc' := 270) (w := 181) hE fl_X11_134 dX11_seekCast_267 is_141 rfl rfl ?_
                                      refine dk_iload (pc' := 272) hE dX11_seekCast_270 rfl rfl ?_
                                      refine ga_109 (pc' := 273) hE dX11_seekCast_272 is_181 (by omega) rfl (fun v99 hv99 htv99 hbv99 => ?_)
                                      refine dk_if_lt (tgt := 316) (pc' := 276) hE dX11_seekCast_273 (by decide) rfl (fun hc100 => ?_) (fun hc100 => ?_)
                                      · skip
                                        refine dk_aload_n (pc' := 317) hE dX11_seekCast_316 rfl rfl rfl ?_
                                        refine gf_11_68 (pc' := 320) (w := 182) hE fl_X11_137 dX11_seekCast_317 is_141 rfl rfl ?_
                                        refine dk_iload (pc' := 322) hE dX11_seekCast_320 rfl rfl ?_
                                        refine dk_lload (pc' := 324) hE dX11_seekCast_322 rfl rfl ?_
                                        refine pa_110 (pc' := 325) hE dX11_seekCast_324 is_182 (by omega) trivial rfl (fun σ101 eσ101 => ?_)
                                        refine dk_aload_n (pc' := 326) hE dX11_seekCast_325 rfl rfl rfl ?_
                                        refine gf_11_69 (pc' := 329) (w := 183) hE fl_X11_140 dX11_seekCast_326 is_141 rfl rfl ?_
                                        refine dk_iload (pc' := 331) hE dX11_seekCast_329 rfl rfl ?_
                                        refine dk_iload (pc' := 333) hE dX11_seekCast_331 rfl rfl ?_
                                        refine pa_111 (pc' := 334) hE dX11_seekCast_333 is_183 (by omega) trivial rfl (fun σ102 eσ102 => ?_)
                                        refine dk_aload_n (pc' := 335) hE dX11_seekCast_334 rfl rfl rfl ?_
                                        refine gf_11_67 (pc' := 338) (w := 181) hE fl_X11_134 dX11_seekCast_335 is_141 rfl rfl ?_
                                        refine dk_iload (pc' := 340) hE dX11_seekCast_338 rfl rfl ?_
                                        refine dk_iload (pc' := 342) hE dX11_seekCast_340 rfl rfl ?_
                                        refine pa_109 (pc' := 343) hE dX11_seekCast_342 is_181 (by omega) (by omega) rfl (fun σ103 eσ103 => ?_)
                                        obtain ⟨v104, hv104⟩ : ∃ z : Int, z = b + 1 := ⟨_, rfl⟩
                                        refine dk_iinc (pc' := 346) (ls' := [(4, 141), (0, w), (0, q), (4, 178), (0, i), (0, v27), (0, m), (0, v31), (0, v104), (3, v62), (9, 0), (0, v98)]) hE dX11_seekCast_343 rfl hv104.symm (by omega) rfl (by decide) rfl ?_
                                        refine dk_goto (tgt := 125) hE dX11_seekCast_346 (by decide) ?_
                                        refine dk_drop (ls' := [(4, 141), (0, w), (0, q), (4, 178), (0, i), (0, v27), (0, m), (0, v31), (0, v104), (9, 0), (9, 0), (9, 0)]) [true, true, true, true, true, true, true, true, true, false, false, false] rfl ?_
                                        exact ih125 v104 σ103 (by omega) (fun k_ j_ h_ => by rw [eσ103, dk_up_n (show ¬ (k_ = 181 ∧ j_ = v31) from fun q_ => h_ (dk_wr (lo := 181) (hi := 183) q_.1 (by decide))), eσ102, dk_up_n (show ¬ (k_ = 183 ∧ j_ = v31) from fun q_ => h_ (dk_wr (lo := 181) (hi := 183) q_.1 (by decide))), eσ101, dk_up_n (show ¬ (k_ = 182 ∧ j_ = v31) from fun q_ => h_ (dk_wr (lo := 181) (hi := 183) q_.1 (by decide))), hF125 k_ j_ (fun w_ => h_ (w_))]) (by omega) (by first | exact hT125 | exact TB_set hT125 (by omega) (by omega) (by omega) (by omega) hS hC (by omega) eσ101 eσ102 eσ103 | exact TB_init hT76 (by omega) (by omega) (by omega) eσ101 eσ102 eσ103)
                                      · skip
                                        refine dk_iload (pc' := 278) hE dX11_seekCast_276 rfl rfl ?_
                                        refine dk_aload_n (pc' := 279) hE dX11_seekCast_278 rfl rfl rfl ?_
                                        refine gf_11_69 (pc' := 282) (w := 183) hE fl_X11_140 dX11_seekCast_279 is_141 rfl rfl ?_
                                        refine dk_iload (pc' := 284) hE dX11_seekCast_282 rfl rfl ?_
                                        refine ga_111 (pc' := 285) hE dX11_seekCast_284 is_183 (by omega) rfl (fun v105 hv105 htv105 hbv105 => ?_)
                                        refine dk_icmp_gt (tgt := 343) (pc' := 288) hE dX11_seekCast_285 (by decide) rfl (fun hc106 => ?_) (fun hc106 => ?_)
                                        · skip
                                          obtain ⟨v107, hv107⟩ : ∃ z : Int, z = b + 1 := ⟨_, rfl⟩
                                          refine dk_iinc (pc' := 346) (ls' := [(4, 141), (0, w), (0, q), (4, 178), (0, i), (0, v27), (0, m), (0, v31), (0, v107), (3, v62), (9, 0), (0, v98)]) hE dX11_seekCast_343 rfl hv107.symm (by omega) rfl (by decide) rfl ?_
                                          refine dk_goto (tgt := 125) hE dX11_seekCast_346 (by decide) ?_
                                          refine dk_drop (ls' := [(4, 141), (0, w), (0, q), (4, 178), (0, i), (0, v27), (0, m), (0, v31), (0, v107), (9, 0), (9, 0), (9, 0)]) [true, true, true, true, true, true, true, true, true, false, false, false] rfl ?_
                                          exact ih125 v107 σ125c (by omega) (fun k_ j_ h_ => by rw [hF125 k_ j_ (fun w_ => h_ (w_))]) (by omega) (by first | exact hT125 | exact TB_set hT125 (by omega) (by omega) (by omega) (by omega) hS hC (by omega) eσ33 eσ34 rfl | exact TB_init hT76 (by omega) (by omega) (by omega) eσ33 eσ34 rfl)
                                        · skip
                                          refine dk_iload (pc' := 290) hE dX11_seekCast_288 rfl rfl ?_
                                          refine dk_aload_n (pc' := 291) hE dX11_seekCast_290 rfl rfl rfl ?_
                                          refine gf_11_69 (pc' := 294) (w := 183) hE fl_X11_140 dX11_seekCast_291 is_141 rfl rfl ?_
                                          refine dk_iload (pc' := 296) hE dX11_seekCast_294 rfl rfl ?_
                                          refine ga_111 (pc' := 297) hE dX11_seekCast_296 is_183 (by omega) rfl (fun v108 hv108 htv108 hbv108 => ?_)
                                          have hq108 : v105 = v108 := (show v108 = v105 by rw [hv108, hv105]).symm
                                          subst hq108
                                          clear htv108 hbv108
                                          refine dk_icmp_ne (tgt := 316) (pc' := 300) hE dX11_seekCast_297 (by decide) rfl (fun hc109 => ?_) (fun hc109 => ?_)
                                          · skip
                                            refine dk_aload_n (pc' := 317) hE dX11_seekCast_316 rfl rfl rfl ?_
                                            refine gf_11_68 (pc' := 320) (w := 182) hE fl_X11_137 dX11_seekCast_317 is_141 rfl rfl ?_
                                            refine dk_iload (pc' := 322) hE dX11_seekCast_320 rfl rfl ?_
                                            refine dk_lload (pc' := 324) hE dX11_seekCast_322 rfl rfl ?_
                                            refine pa_110 (pc' := 325) hE dX11_seekCast_324 is_182 (by omega) trivial rfl (fun σ110 eσ110 => ?_)
                                            refine dk_aload_n (pc' := 326) hE dX11_seekCast_325 rfl rfl rfl ?_
                                            refine gf_11_69 (pc' := 329) (w := 183) hE fl_X11_140 dX11_seekCast_326 is_141 rfl rfl ?_
                                            refine dk_iload (pc' := 331) hE dX11_seekCast_329 rfl rfl ?_
                                            refine dk_iload (pc' := 333) hE dX11_seekCast_331 rfl rfl ?_
                                            refine pa_111 (pc' := 334) hE dX11_seekCast_333 is_183 (by omega) trivial rfl (fun σ111 eσ111 => ?_)
                                            refine dk_aload_n (pc' := 335) hE dX11_seekCast_334 rfl rfl rfl ?_
                                            refine gf_11_67 (pc' := 338) (w := 181) hE fl_X11_134 dX11_seekCast_335 is_141 rfl rfl ?_
                                            refine dk_iload (pc' := 340) hE dX11_seekCast_338 rfl rfl ?_
                                            refine dk_iload (pc' := 342) hE dX11_seekCast_340 rfl rfl ?_
                                            refine pa_109 (pc' := 343) hE dX11_seekCast_342 is_181 (by omega) (by omega) rfl (fun σ112 eσ112 => ?_)
                                            obtain ⟨v113, hv113⟩ : ∃ z : Int, z = b + 1 := ⟨_, rfl⟩
                                            refine dk_iinc (pc' := 346) (ls' := [(4, 141), (0, w), (0, q), (4, 178), (0, i), (0, v27), (0, m), (0, v31), (0, v113), (3, v62), (9, 0), (0, v98)]) hE dX11_seekCast_343 rfl hv113.symm (by omega) rfl (by decide) rfl ?_
                                            refine dk_goto (tgt := 125) hE dX11_seekCast_346 (by decide) ?_
                                            refine dk_drop (ls' := [(4, 141), (0, w), (0, q), (4, 178), (0, i), (0, v27), (0, m), (0, v31), (0, v113), (9, 0), (9, 0), (9, 0)]) [true, true, true, true, true, true, true, true, true, false, false, false] rfl ?_
                                            exact ih125 v113 σ112 (by omega) (fun k_ j_ h_ => by rw [eσ112, dk_up_n (show ¬ (k_ = 181 ∧ j_ = v31) from fun q_ => h_ (dk_wr (lo := 181) (hi := 183) q_.1 (by decide))), eσ111, dk_up_n (show ¬ (k_ = 183 ∧ j_ = v31) from fun q_ => h_ (dk_wr (lo := 181) (hi := 183) q_.1 (by decide))), eσ110, dk_up_n (show ¬ (k_ = 182 ∧ j_ = v31) from fun q_ => h_ (dk_wr (lo := 181) (hi := 183) q_.1 (by decide))), hF125 k_ j_ (fun w_ => h_ (w_))]) (by omega) (by first | exact hT125 | exact TB_set hT125 (by omega) (by omega) (by omega) (by omega) hS hC (by omega) eσ110 eσ111 eσ112 | exact TB_init hT76 (by omega) (by omega) (by omega) eσ110 eσ111 eσ112)
                                          · skip
                                            refine dk_lload (pc' := 302) hE dX11_seekCast_300 rfl rfl ?_
                                            refine dk_aload_n (pc' := 303) hE dX11_seekCast_302 rfl rfl rfl ?_
                                            refine gf_11_68 (pc' := 306) (w := 182) hE fl_X11_137 dX11_seekCast_303 is_141 rfl rfl ?_
                                            refine dk_iload (pc' := 308) hE dX11_seekCast_306 rfl rfl ?_
                                            refine ga_110 (pc' := 309) hE dX11_seekCast_308 is_182 (by omega) rfl (fun v114 hv114 htv114 hbv114 => ?_)
                                            refine dk_lcmp (pc' := 310) hE dX11_seekCast_309 rfl (fun v115 hv115 => ?_)
                                            refine dk_if_lt (tgt := 316) (pc' := 313) hE dX11_seekCast_310 (by decide) rfl (fun hc116 => ?_) (fun hc116 => ?_)
                                            · skip
                                              refine dk_aload_n (pc' := 317) hE dX11_seekCast_316 rfl rfl rfl ?_
                                              refine gf_11_68 (pc' := 320) (w := 182) hE fl_X11_137 dX11_seekCast_317 is_141 rfl rfl ?_
                                              refine dk_iload (pc' := 322) hE dX11_seekCast_320 rfl rfl ?_
                                              refine dk_lload (pc' := 324) hE dX11_seekCast_322 rfl rfl ?_
                                              refine pa_110 (pc' := 325) hE dX11_seekCast_324 is_182 (by omega) trivial rfl (fun σ117 eσ117 => ?_)
                                              refine dk_aload_n (pc' := 326) hE dX11_seekCast_325 rfl rfl rfl ?_
                                              refine gf_11_69 (pc' := 329) (w := 183) hE fl_X11_140 dX11_seekCast_326 is_141 rfl rfl ?_
                                              refine dk_iload (pc' := 331) hE dX11_seekCast_329 rfl rfl ?_
                                              refine dk_iload (pc' := 333) hE dX11_seekCast_331 rfl rfl ?_
                                              refine pa_111 (pc' := 334) hE dX11_seekCast_333 is_183 (by omega) trivial rfl (fun σ118 eσ118 => ?_)
                                              refine dk_aload_n (pc' := 335) hE dX11_seekCast_334 rfl rfl rfl ?_
                                              refine gf_11_67 (pc' := 338) (w := 181) hE fl_X11_134 dX11_seekCast_335 is_141 rfl rfl ?_
                                              refine dk_iload (pc' := 340) hE dX11_seekCast_338 rfl rfl ?_
                                              refine dk_iload (pc' := 342) hE dX11_seekCast_340 rfl rfl ?_
                                              refine pa_109 (pc' := 343) hE dX11_seekCast_342 is_181 (by omega) (by omega) rfl (fun σ119 eσ119 => ?_)
                                              obtain ⟨v120, hv120⟩ : ∃ z : Int, z = b + 1 := ⟨_, rfl⟩
                                              refine dk_iinc (pc' := 346) (ls' := [(4, 141), (0, w), (0, q), (4, 178), (0, i), (0, v27), (0, m), (0, v31), (0, v120), (3, v62), (9, 0), (0, v98)]) hE dX11_seekCast_343 rfl hv120.symm (by omega) rfl (by decide) rfl ?_
                                              refine dk_goto (tgt := 125) hE dX11_seekCast_346 (by decide) ?_
                                              refine dk_drop (ls' := [(4, 141), (0, w), (0, q), (4, 178), (0, i), (0, v27), (0, m), (0, v31), (0, v120), (9, 0), (9, 0), (9, 0)]) [true, true, true, true, true, true, true, true, true, false, false, false] rfl ?_
                                              exact ih125 v120 σ119 (by omega) (fun k_ j_ h_ => by rw [eσ119, dk_up_n (show ¬ (k_ = 181 ∧ j_ = v31) from fun q_ => h_ (dk_wr (lo := 181) (hi := 183) q_.1 (by decide))), eσ118, dk_up_n (show ¬ (k_ = 183 ∧ j_ = v31) from fun q_ => h_ (dk_wr (lo := 181) (hi := 183) q_.1 (by decide))), eσ117, dk_up_n (show ¬ (k_ = 182 ∧ j_ = v31) from fun q_ => h_ (dk_wr (lo := 181) (hi := 183) q_.1 (by decide))), hF125 k_ j_ (fun w_ => h_ (w_))]) (by omega) (by first | exact hT125 | exact TB_set hT125 (by omega) (by omega) (by omega) (by omega) hS hC (by omega) eσ117 eσ118 eσ119 | exact TB_init hT76 (by omega) (by omega) (by omega) eσ117 eσ118 eσ119)
                                            · skip
                                              refine dk_goto (tgt := 343) hE dX11_seekCast_313 (by decide) ?_
                                              obtain ⟨v121, hv121⟩ : ∃ z : Int, z = b + 1 := ⟨_, rfl⟩
                                              refine dk_iinc (pc' := 346) (ls' := [(4, 141), (0, w), (0, q), (4, 178), (0, i), (0, v27), (0, m), (0, v31), (0, v121), (3, v62), (9, 0), (0, v98)]) hE dX11_seekCast_343 rfl hv121.symm (by omega) rfl (by decide) rfl ?_
                                              refine dk_goto (tgt := 125) hE dX11_seekCast_346 (by decide) ?_
                                              refine dk_drop (ls' := [(4, 141), (0, w), (0, q), (4, 178), (0, i), (0, v27), (0, m), (0, v31), (0, v121), (9, 0), (9, 0), (9, 0)]) [true, true, true, true, true, true, true, true, true, false, false, false] rfl ?_
                                              exact ih125 v121 σ125c (by omega) (fun k_ j_ h_ => by rw [hF125 k_ j_ (fun w_ => h_ (w_))]) (by omega) (by first | exact hT125 | exact TB_set hT125 (by omega) (by omega) (by omega) (by omega) hS hC (by omega) eσ33 eσ34 rfl | exact TB_init hT76 (by omega) (by omega) (by omega) eσ33 eσ34 rfl)
                                    · skip
                                      refine dk_iconst (pc' := 243) hE dX11_seekCast_242 (by decide) rfl ?_
                                      refine dk_goto (tgt := 247) hE dX11_seekCast_243 (by decide) ?_
                                      refine dk_aload_n (pc' := 248) hE dX11_seekCast_247 rfl rfl rfl ?_
                                      refine gf_11_69 (pc' := 251) (w := 183) hE fl_X11_140 dX11_seekCast_248 is_141 rfl rfl ?_
                                      refine dk_iload (pc' := 253) hE dX11_seekCast_251 rfl rfl ?_
                                      refine dk_sipush (pc' := 256) hE dX11_seekCast_253 (by decide) rfl ?_
                                      obtain ⟨v122, hv122⟩ : ∃ z : Int, z = v31 + 1024 := ⟨_, rfl⟩
                                      refine dk_iadd (pc' := 257) hE dX11_seekCast_256 hv122.symm (by omega) rfl ?_
                                      refine dk_iconst (pc' := 258) hE dX11_seekCast_257 (by decide) rfl ?_
                                      refine dk_iload (pc' := 260) hE dX11_seekCast_258 rfl rfl ?_
                                      refine dk_ishl (pc' := 261) hE dX11_seekCast_260 rfl (fun v123 hv123 ev123 => ?_)
                                      have hF_ := ev123.trans hS.symm
                                      obtain ⟨v124, hv124⟩ : ∃ z : Int, z = v122 + v123 := ⟨_, rfl⟩
                                      refine dk_iadd (pc' := 262) hE dX11_seekCast_261 hv124.symm (by omega) rfl ?_
                                      refine ga_111 (pc' := 263) hE dX11_seekCast_262 is_183 (by omega) rfl (fun v125 hv125 htv125 hbv125 => ?_)
                                      refine dk_iaddW (pc' := 264) hE dX11_seekCast_263 rfl (fun v126 hv126 _ => ?_)
                                      refine dk_istore (pc' := 266) (ls' := [(4, 141), (0, w), (0, q), (4, 178), (0, i), (0, v27), (0, m), (0, v31), (0, b), (3, v62), (9, 0), (0, v126)]) hE dX11_seekCast_264 rfl (by decide) rfl ?_
                                      refine dk_aload_n (pc' := 267) hE dX11_seekCast_266 rfl rfl rfl ?_
                                      refine gf_11_67 (pc' := 270) (w := 181) hE fl_X11_134 dX11_seekCast_267 is_141 rfl rfl ?_
                                      refine dk_iload (pc' := 272) hE dX11_seekCast_270 rfl rfl ?_
                                      refine ga_109 (pc' := 273) hE dX11_seekCast_272 is_181 (by omega) rfl (fun v127 hv127 htv127 hbv127 => ?_)
                                      refine dk_if_lt (tgt := 316) (pc' := 276) hE dX11_seekCast_273 (by decide) rfl (fun hc128 => ?_) (fun hc128 => ?_)
                                      · skip
                                        refine dk_aload_n (pc' := 317) hE dX11_seekCast_316 rfl rfl rfl ?_
                                        refine gf_11_68 (pc' := 320) (w := 182) hE fl_X11_137 dX11_seekCast_317 is_141 rfl rfl ?_
                                        refine dk_iload (pc' := 322) hE dX11_seekCast_320 rfl rfl ?_
                                        refine dk_lload (pc' := 324) hE dX11_seekCast_322 rfl rfl ?_
                                        refine pa_110 (pc' := 325) hE dX11_seekCast_324 is_182 (by omega) trivial rfl (fun σ129 eσ129 => ?_)
                                        refine dk_aload_n (pc' := 326) hE dX11_seekCast_325 rfl rfl rfl ?_
                                        refine gf_11_69 (pc' := 329) (w := 183) hE fl_X11_140 dX11_seekCast_326 is_141 rfl rfl ?_
                                        refine dk_iload (pc' := 331) hE dX11_seekCast_329 rfl rfl ?_
                                        refine dk_iload (pc' := 333) hE dX11_seekCast_331 rfl rfl ?_
                                        refine pa_111 (pc' := 334) hE dX11_seekCast_333 is_183 (by omega) trivial rfl (fun σ130 eσ130 => ?_)
                                        refine dk_aload_n (pc' := 335) hE dX11_seekCast_334 rfl rfl rfl ?_
                                        refine gf_11_67 (pc' := 338) (w := 181) hE fl_X11_134 dX11_seekCast_335 is_141 rfl rfl ?_
                                        refine dk_iload (pc' := 340) hE dX11_seekCast_338 rfl rfl ?_
                                        refine dk_iload (pc' := 342) hE dX11_seekCast_340 rfl rfl ?_
                                        refine pa_109 (pc' := 343) hE dX11_seekCast_342 is_181 (by omega) (by omega) rfl (fun σ131 eσ131 => ?_)
                                        obtain ⟨v132, hv132⟩ : ∃ z : Int, z = b + 1 := ⟨_, rfl⟩
                                        refine dk_iinc (pc' := 346) (ls' := [(4, 141), (0, w), (0, q), (4, 178), (0, i), (0, v27), (0, m), (0, v31), (0, v132), (3, v62), (9, 0), (0, v126)]) hE dX11_seekCast_343 rfl hv132.symm (by omega) rfl (by decide) rfl ?_
                                        refine dk_goto (tgt := 125) hE dX11_seekCast_346 (by decide) ?_
                                        refine dk_drop (ls' := [(4, 141), (0, w), (0, q), (4, 178), (0, i), (0, v27), (0, m), (0, v31), (0, v132), (9, 0), (9, 0), (9, 0)]) [true, true, true, true, true, true, true, true, true, false, false, false] rfl ?_
                                        exact ih125 v132 σ131 (by omega) (fun k_ j_ h_ => by rw [eσ131, dk_up_n (show ¬ (k_ = 181 ∧ j_ = v31) from fun q_ => h_ (dk_wr (lo := 181) (hi := 183) q_.1 (by decide))), eσ130, dk_up_n (show ¬ (k_ = 183 ∧ j_ = v31) from fun q_ => h_ (dk_wr (lo := 181) (hi := 183) q_.1 (by decide))), eσ129, dk_up_n (show ¬ (k_ = 182 ∧ j_ = v31) from fun q_ => h_ (dk_wr (lo := 181) (hi := 183) q_.1 (by decide))), hF125 k_ j_ (fun w_ => h_ (w_))]) (by omega) (by first | exact hT125 | exact TB_set hT125 (by omega) (by omega) (by omega) (by omega) hS hC (by omega) eσ129 eσ130 eσ131 | exact TB_init hT76 (by omega) (by omega) (by omega) eσ129 eσ130 eσ131)
                                      · skip
                                        refine dk_iload (pc' := 278) hE dX11_seekCast_276 rfl rfl ?_
                                        refine dk_aload_n (pc' := 279) hE dX11_seekCast_278 rfl rfl rfl ?_
                                        refine gf_11_69 (pc' := 282) (w := 183) hE fl_X11_140 dX11_seekCast_279 is_141 rfl rfl ?_
                                        refine dk_iload (pc' := 284) hE dX11_seekCast_282 rfl rfl ?_
                                        refine ga_111 (pc' := 285) hE dX11_seekCast_284 is_183 (by omega) rfl (fun v133 hv133 htv133 hbv133 => ?_)
                                        refine dk_icmp_gt (tgt := 343) (pc' := 288) hE dX11_seekCast_285 (by decide) rfl (fun hc134 => ?_) (fun hc134 => ?_)
                                        · skip
                                          obtain ⟨v135, hv135⟩ : ∃ z : Int, z = b + 1 := ⟨_, rfl⟩
                                          refine dk_iinc (pc' := 346) (ls' := [(4, 141), (0, w), (0, q), (4, 178), (0, i), (0, v27), (0, m), (0, v31), (0, v135), (3, v62), (9, 0), (0, v126)]) hE dX11_seekCast_343 rfl hv135.symm (by omega) rfl (by decide) rfl ?_
                                          refine dk_goto (tgt := 125) hE dX11_seekCast_346 (by decide) ?_
                                          refine dk_drop (ls' := [(4, 141), (0, w), (0, q), (4, 178), (0, i), (0, v27), (0, m), (0, v31), (0, v135), (9, 0), (9, 0), (9, 0)]) [true, true, true, true, true, true, true, true, true, false, false, false] rfl ?_
                                          exact ih125 v135 σ125c (by omega) (fun k_ j_ h_ => by rw [hF125 k_ j_ (fun w_ => h_ (w_))]) (by omega) (by first | exact hT125 | exact TB_set hT125 (by omega) (by omega) (by omega) (by omega) hS hC (by omega) eσ33 eσ34 rfl | exact TB_init hT76 (by omega) (by omega) (by omega) eσ33 eσ34 rfl)
                                        · skip
                                          refine dk_iload (pc' := 290) hE dX11_seekCast_288 rfl rfl ?_
                                          refine dk_aload_n (pc' := 291) hE dX11_seekCast_290 rfl rfl rfl ?_
                                          refine gf_11_69 (pc' := 294) (w := 183) hE fl_X11_140 dX11_seekCast_291 is_141 rfl rfl ?_
                                          refine dk_iload (pc' := 296) hE dX11_seekCast_294 rfl rfl ?_
                                          refine ga_111 (pc' := 297) hE dX11_seekCast_296 is_183 (by omega) rfl (fun v136 hv136 htv136 hbv136 => ?_)
                                          have hq136 : v133 = v136 := (show v136 = v133 by rw [hv136, hv133]).symm
                                          subst hq136
                                          clear htv136 hbv136
                                          refine dk_icmp_ne (tgt := 316) (pc' := 300) hE dX11_seekCast_297 (by decide) rfl (fun hc137 => ?_) (fun hc137 => ?_)
                                          · skip
                                            refine dk_aload_n (pc' := 317) hE dX11_seekCast_316 rfl rfl rfl ?_
                                            refine gf_11_68 (pc' := 320) (w := 182) hE fl_X11_137 dX11_seekCast_317 is_141 rfl rfl ?_
                                            refine dk_iload (pc' := 322) hE dX11_seekCast_320 rfl rfl ?_
                                            refine dk_lload (pc' := 324) hE dX11_seekCast_322 rfl rfl ?_
                                            refine pa_110 (pc' := 325) hE dX11_seekCast_324 is_182 (by omega) trivial rfl (fun σ138 eσ138 => ?_)
                                            refine dk_aload_n (pc' := 326) hE dX11_seekCast_325 rfl rfl rfl ?_
                                            refine gf_11_69 (pc' := 329) (w := 183) hE fl_X11_140 dX11_seekCast_326 is_141 rfl rfl ?_
                                            refine dk_iload (pc' := 331) hE dX11_seekCast_329 rfl rfl ?_
                                            refine dk_iload (pc' := 333) hE dX11_seekCast_331 rfl rfl ?_
                                            refine pa_111 (pc' := 334) hE dX11_seekCast_333 is_183 (by omega) trivial rfl (fun σ139 eσ139 => ?_)
                                            refine dk_aload_n (pc' := 335) hE dX11_seekCast_334 rfl rfl rfl ?_
                                            refine gf_11_67 (pc' := 338) (w := 181) hE fl_X11_134 dX11_seekCast_335 is_141 rfl rfl ?_
                                            refine dk_iload (pc' := 340) hE dX11_seekCast_338 rfl rfl ?_
                                            refine dk_iload (pc' := 342) hE dX11_seekCast_340 rfl rfl ?_
                                            refine pa_109 (pc' := 343) hE dX11_seekCast_342 is_181 (by omega) (by omega) rfl (fun σ140 eσ140 => ?_)
                                            obtain ⟨v141, hv141⟩ : ∃ z : Int, z = b + 1 := ⟨_, rfl⟩
                                            refine dk_iinc (pc' := 346) (ls' := [(4, 141), (0, w), (0, q), (4, 178), (0, i), (0, v27), (0, m), (0, v31), (0, v141), (3, v62), (9, 0), (0, v126)]) hE dX11_seekCast_343 rfl hv141.symm (by omega) rfl (by decide) rfl ?_
                                            refine dk_goto (tgt := 125) hE dX11_seekCast_346 (by decide) ?_
                                            refine dk_drop (ls' := [(4, 141), (0, w), (0, q), (4, 178), (0, i), (0, v27), (0, m), (0, v31), (0, v141), (9, 0), (9, 0), (9, 0)]) [true, true, true, true, true, true, true, true, true, false, false, false] rfl ?_
                                            exact ih125 v141 σ140 (by omega) (fun k_ j_ h_ => by rw [eσ140, dk_up_n (show ¬ (k_ = 181 ∧ j_ = v31) from fun q_ => h_ (dk_wr (lo := 181) (hi := 183) q_.1 (by decide))), eσ139, dk_up_n (show ¬ (k_ = 183 ∧ j_ = v31) from fun q_ => h_ (dk_wr (lo := 181) (hi := 183) q_.1 (by decide))), eσ138, dk_up_n (show ¬ (k_ = 182 ∧ j_ = v31) from fun q_ => h_ (dk_wr (lo := 181) (hi := 183) q_.1 (by decide))), hF125 k_ j_ (fun w_ => h_ (w_))]) (by omega) (by first | exact hT125 | exact TB_set hT125 (by omega) (by omega) (by omega) (by omega) hS hC (by omega) eσ138 eσ139 eσ140 | exact TB_init hT76 (by omega) (by omega) (by omega) eσ138 eσ139 eσ140)
                                          · skip
                                            refine dk_lload (pc' := 302) hE dX11_seekCast_300 rfl rfl ?_
                                            refine dk_aload_n (pc' := 303) hE dX11_seekCast_302 rfl rfl rfl ?_
                                            refine gf_11_68 (pc' := 306) (w := 182) hE fl_X11_137 dX11_seekCast_303 is_141 rfl rfl ?_
                                            refine dk_iload (pc' := 308) hE dX11_seekCast_306 rfl rfl ?_
                                            refine ga_110 (pc' := 309) hE dX11_seekCast_308 is_182 (by omega) rfl (fun v142 hv142 htv142 hbv142 => ?_)
                                            refine dk_lcmp (pc' := 310) hE dX11_seekCast_309 rfl (fun v143 hv143 => ?_)
                                            refine dk_if_lt (tgt := 316) (pc' := 313) hE dX11_seekCast_310 (by decide) rfl (fun hc144 => ?_) (fun hc144 => ?_)
                                            · skip
                                              refine dk_aload_n (pc' := 317) hE dX11_seekCast_316 rfl rfl rfl ?_
                                              refine gf_11_68 (pc' := 320) (w := 182) hE fl_X11_137 dX11_seekCast_317 is_141 rfl rfl ?_
                                              refine dk_iload (pc' := 322) hE dX11_seekCast_320 rfl rfl ?_
                                              refine dk_lload (pc' := 324) hE dX11_seekCast_322 rfl rfl ?_
                                              refine pa_110 (pc' := 325) hE dX11_seekCast_324 is_182 (by omega) trivial rfl (fun σ145 eσ145 => ?_)
                                              refine dk_aload_n (pc' := 326) hE dX11_seekCast_325 rfl rfl rfl ?_
                                              refine gf_11_69 (pc' := 329) (w := 183) hE fl_X11_140 dX11_seekCast_326 is_141 rfl rfl ?_
                                              refine dk_iload (pc' := 331) hE dX11_seekCast_329 rfl rfl ?_
                                              refine dk_iload (pc' := 333) hE dX11_seekCast_331 rfl rfl ?_
                                              refine pa_111 (pc' := 334) hE dX11_seekCast_333 is_183 (by omega) trivial rfl (fun σ146 eσ146 => ?_)
                                              refine dk_aload_n (pc' := 335) hE dX11_seekCast_334 rfl rfl rfl ?_
                                              refine gf_11_67 (pc' := 338) (w := 181) hE fl_X11_134 dX11_seekCast_335 is_141 rfl rfl ?_
                                              refine dk_iload (pc' := 340) hE dX11_seekCast_338 rfl rfl ?_
                                              refine dk_iload (pc' := 342) hE dX11_seekCast_340 rfl rfl ?_
                                              refine pa_109 (pc' := 343) hE dX11_seekCast_342 is_181 (by omega) (by omega) rfl (fun σ147 eσ147 => ?_)
                                              obtain ⟨v148, hv148⟩ : ∃ z : Int, z = b + 1 := ⟨_, rfl⟩
                                              refine dk_iinc (pc' := 346) (ls' := [(4, 141), (0, w), (0, q), (4, 178), (0, i), (0, v27), (0, m), (0, v31), (0, v148), (3, v62), (9, 0), (0, v126)]) hE dX11_seekCast_343 rfl hv148.symm (by omega) rfl (by decide) rfl ?_
                                              refine dk_goto (tgt := 125) hE dX11_seekCast_346 (by decide) ?_
                                              refine dk_drop (ls' := [(4, 141), (0, w), (0, q), (4, 178), (0, i), (0, v27), (0, m), (0, v31), (0, v148), (9, 0), (9, 0), (9, 0)]) [true, true, true, true, true, true, true, true, true, false, false, false] rfl ?_
                                              exact ih125 v148 σ147 (by omega) (fun k_ j_ h_ => by rw [eσ147, dk_up_n (show ¬ (k_ = 181 ∧ j_ = v31) from fun q_ => h_ (dk_wr (lo := 181) (hi := 183) q_.1 (by decide))), eσ146, dk_up_n (show ¬ (k_ = 183 ∧ j_ = v31) from fun q_ => h_ (dk_wr (lo := 181) (hi := 183) q_.1 (by decide))), eσ145, dk_up_n (show ¬ (k_ = 182 ∧ j_ = v31) from fun q_ => h_ (dk_wr (lo := 181) (hi := 183) q_.1 (by decide))), hF125 k_ j_ (fun w_ => h_ (w_))]) (by omega) (by first | exact hT125 | exact TB_set hT125 (by omega) (by omega) (by omega) (by omega) hS hC (by omega) eσ145 eσ146 eσ147 | exact TB_init hT76 (by omega) (by omega) (by omega) eσ145 eσ146 eσ147)
                                            · skip
                                              refine dk_goto (tgt := 343) hE dX11_seekCast_313 (by decide) ?_
                                              obtain ⟨v149, hv149⟩ : ∃ z : Int, z = b + 1 := ⟨_, rfl⟩
                                              refine dk_iinc (pc' := 346) (ls' := [(4, 141), (0, w), (0, q), (4, 178), (0, i), (0, v27), (0, m), (0, v31), (0, v149), (3, v62), (9, 0), (0, v126)]) hE dX11_seekCast_343 rfl hv149.symm (by omega) rfl (by decide) rfl ?_
                                              refine dk_goto (tgt := 125) hE dX11_seekCast_346 (by decide) ?_
                                              refine dk_drop (ls' := [(4, 141), (0, w), (0, q), (4, 178), (0, i), (0, v27), (0, m), (0, v31), (0, v149), (9, 0), (9, 0), (9, 0)]) [true, true, true, true, true, true, true, true, true, false, false, false] rfl ?_
                                              exact ih125 v149 σ125c (by omega) (fun k_ j_ h_ => by rw [hF125 k_ j_ (fun w_ => h_ (w_))]) (by omega) (by first | exact hT125 | exact TB_set hT125 (by omega) (by omega) (by omega) (by omega) hS hC (by omega) eσ33 eσ34 rfl | exact TB_init hT76 (by omega) (by omega) (by omega) eσ33 eσ34 rfl)
                                · skip
                                  refine dk_goto (tgt := 343) hE dX11_seekCast_190 (by decide) ?_
                                  obtain ⟨v150, hv150⟩ : ∃ z : Int, z = b + 1 := ⟨_, rfl⟩
                                  refine dk_iinc (pc' := 346) (ls' := [(4, 141), (0, w), (0, q), (4, 178), (0, i), (0, v27), (0, m), (0, v31), (0, v150), (9, 0), (9, 0), (9, 0)]) hE dX11_seekCast_343 rfl hv150.symm (by omega) rfl (by decide) rfl ?_
                                  refine dk_goto (tgt := 125) hE dX11_seekCast_346 (by decide) ?_
                                  exact ih125 v150 σ125c (by omega) (fun k_ j_ h_ => by rw [hF125 k_ j_ (fun w_ => h_ (w_))]) (by omega) (by first | exact hT125 | exact TB_set hT125 (by omega) (by omega) (by omega) (by omega) hS hC (by omega) eσ33 eσ34 rfl | exact TB_init hT76 (by omega) (by omega) (by omega) eσ33 eσ34 rfl)
                    exact lp125 _ 0 σ34 (Nat.lt_succ_self _) (fun k_ j_ h_ => rfl) (by omega) (by first | exact hT125 | exact TB_set hT125 (by omega) (by omega) (by omega) (by omega) hS hC (by omega) eσ32 eσ33 eσ34 | exact TB_init hT76 (by omega) (by omega) (by omega) eσ32 eσ33 eσ34)
              exact lp76 _ 0 σ59c (Nat.lt_succ_self _) (fun k_ j_ h_ => rfl) (by omega) (by first | exact hT59 | (rw [show 0 = m + 1 by omega]; exact hT125))
        exact lp59 _ v3 σ3c (Nat.lt_succ_self _) (fun k_ j_ h_ => rfl) (by omega) (by first | (rw [show v3 = i - 1 by omega]; exact TB_row hT76 (by omega)) | (rw [show v3 = n - 1 by omega]; exact TB_0 (fun q_ a_ b_ => hz q_ a_ (by omega))))
      · skip
        refine dk_aload_n (pc' := 12) hE dX11_seekCast_11 rfl rfl rfl ?_
        refine gf_11_68 (pc' := 15) (w := 182) hE fl_X11_137 dX11_seekCast_12 is_141 rfl rfl ?_
        refine dk_sipush (pc' := 18) hE dX11_seekCast_15 (by decide) rfl ?_
        refine dk_aload_n (pc' := 19) hE dX11_seekCast_18 rfl rfl rfl ?_
        refine gf_11_70 (pc' := 22) hE fl_X11_483 dX11_seekCast_19 is_141 rfl (fun v151 hv151 htv151 hbv151 => ?_)
        have hq151 : n = v151 := (show v151 = n by rw [hv151, hF3 141 70 (by omega), hn]).symm
        subst hq151
        obtain ⟨v152, hv152⟩ : ∃ z : Int, z = 1024 * n := ⟨_, rfl⟩
        refine dk_imul (pc' := 23) hE dX11_seekCast_22 hv152.symm (by omega) rfl ?_
        refine dk_iload (pc' := 25) hE dX11_seekCast_23 rfl rfl ?_
        obtain ⟨v153, hv153⟩ : ∃ z : Int, z = v152 + i := ⟨_, rfl⟩
        refine dk_iadd (pc' := 26) hE dX11_seekCast_25 hv153.symm (by omega) rfl ?_
        refine dk_lconst (pc' := 27) hE dX11_seekCast_26 (w := 0) rfl rfl ?_
        refine pa_110 (pc' := 28) hE dX11_seekCast_27 is_182 (by omega) trivial rfl (fun σ154 eσ154 => ?_)
        refine dk_aload_n (pc' := 29) hE dX11_seekCast_28 rfl rfl rfl ?_
        refine gf_11_69 (pc' := 32) (w := 183) hE fl_X11_140 dX11_seekCast_29 is_141 rfl rfl ?_
        refine dk_sipush (pc' := 35) hE dX11_seekCast_32 (by decide) rfl ?_
        refine dk_aload_n (pc' := 36) hE dX11_seekCast_35 rfl rfl rfl ?_
        refine gf_11_70 (pc' := 39) hE fl_X11_483 dX11_seekCast_36 is_141 rfl (fun v155 hv155 htv155 hbv155 => ?_)
        have hq155 : n = v155 := (show v155 = n by rw [hv155, eσ154, dk_up_n (show ¬ (141 = 182 ∧ 70 = v153) by omega), hv151]).symm
        subst hq155
        obtain ⟨v156, hv156⟩ : ∃ z : Int, z = 1024 * n := ⟨_, rfl⟩
        refine dk_imul (pc' := 40) hE dX11_seekCast_39 hv156.symm (by omega) rfl ?_
        refine dk_iload (pc' := 42) hE dX11_seekCast_40 rfl rfl ?_
        obtain ⟨v157, hv157⟩ : ∃ z : Int, z = v156 + i := ⟨_, rfl⟩
        refine dk_iadd (pc' := 43) hE dX11_seekCast_42 hv157.symm (by omega) rfl ?_
        refine dk_iconst (pc' := 44) hE dX11_seekCast_43 (by decide) rfl ?_
        refine pa_111 (pc' := 45) hE dX11_seekCast_44 is_183 (by omega) trivial rfl (fun σ158 eσ158 => ?_)
        obtain ⟨v159, hv159⟩ : ∃ z : Int, z = i + 1 := ⟨_, rfl⟩
        refine dk_iinc (pc' := 48) (ls' := [(4, 141), (0, w), (0, q), (4, 178), (0, v159), (9, 0), (9, 0), (9, 0), (9, 0), (9, 0), (9, 0), (9, 0)]) hE dX11_seekCast_45 rfl hv159.symm (by omega) rfl (by decide) rfl ?_
        refine dk_goto (tgt := 3) hE dX11_seekCast_48 (by decide) ?_
        exact ih3 v159 σ158 (by omega) (fun k_ j_ h_ => by rw [eσ158, dk_up_n (show ¬ (k_ = 183 ∧ j_ = v157) from fun q_ => h_ (dk_wr (lo := 182) (hi := 183) q_.1 (by decide))), eσ154, dk_up_n (show ¬ (k_ = 182 ∧ j_ = v153) from fun q_ => h_ (dk_wr (lo := 182) (hi := 183) q_.1 (by decide))), hF3 k_ j_ (fun w_ => h_ (w_))]) (by omega) (fun q_ a_ b_ => by first | (exfalso; omega) | (rw [eσ158, dk_up_n (by omega)]; exact (if c_ : q_ < i then (by rw [eσ154, dk_up_n (by omega)]; exact hz q_ a_ c_) else (by rw [eσ154, show 1024 * n + q_ = v153 by omega, dk_up_s]))))
  exact lp3 _ 0 σ (Nat.lt_succ_self _) (fun k_ j_ h_ => rfl) (by omega) (fun q_ a_ b_ => by first | (exfalso; omega) | (rw [rfl, dk_up_n (by omega)]; exact (if c_ : q_ < i then (by rw [rfl, dk_up_n (by omega)]; exact hz q_ a_ c_) else (by rw [rfl, show 1024 * n + q_ = 0 by omega, dk_up_s]))))
