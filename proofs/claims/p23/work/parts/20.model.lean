set_option maxHeartbeats 4000000 in
set_option maxRecDepth 20000 in
theorem ct_X11_isLetter (l : Launch) (G : dkG) (hGd : dk_Gd G) (a : Int) : dk_Ct l G dk_Ty yX11_isLetter cX11_isLetter 1 (some .boolean) 1 190 190 (fun av σ => av = [(0, a)]) (fun _ σ r_ σ' => ∃ z : Int, r_ = some (0, z) ∧ (∀ k_ j_ : Int, ¬ (False) → σ' k_ j_ = σ k_ j_) ∧ (z = 1 ∧ (97 ≤ a ∧ a ≤ 122) ∨ z = 0 ∧ (a < 97 ∨ 122 < a))) := by
  refine dk_enter hGd (by decide) (fun av σ hpre hok => ?_)
  subst hpre
  refine ⟨Nat.le_of_ble_eq_true rfl, fun E hE hR _ => ?_⟩
  have hi_a : dk_i32 a := dk_oki (hok _ (by simp))
  show dk_PJ E 0 [(0, a)] [] 190 σ
  refine dk_iload_n (pc' := 1) hE dX11_isLetter_0 rfl rfl rfl ?_
  refine dk_bipush (pc' := 3) hE dX11_isLetter_1 (by decide) rfl ?_
  refine dk_icmp_lt (tgt := 16) (pc' := 6) hE dX11_isLetter_3 (by decide) rfl (fun hc1 => ?_) (fun hc1 => ?_)
  · skip
    refine dk_iconst (pc' := 17) hE dX11_isLetter_16 (by decide) rfl ?_
    exact dk_zret (st := []) hE hR dX11_isLetter_17 (by omega) ⟨_, rfl, (fun k_ j_ h_ => rfl), by omega⟩
  · skip
    refine dk_iload_n (pc' := 7) hE dX11_isLetter_6 rfl rfl rfl ?_
    refine dk_bipush (pc' := 9) hE dX11_isLetter_7 (by decide) rfl ?_
    refine dk_icmp_gt (tgt := 16) (pc' := 12) hE dX11_isLetter_9 (by decide) rfl (fun hc2 => ?_) (fun hc2 => ?_)
    · skip
      refine dk_iconst (pc' := 17) hE dX11_isLetter_16 (by decide) rfl ?_
      exact dk_zret (st := []) hE hR dX11_isLetter_17 (by omega) ⟨_, rfl, (fun k_ j_ h_ => rfl), by omega⟩
    · skip
      refine dk_iconst (pc' := 13) hE dX11_isLetter_12 (by decide) rfl ?_
      refine dk_goto (tgt := 17) hE dX11_isLetter_13 (by decide) ?_
      exact dk_zret (st := []) hE hR dX11_isLetter_17 (by omega) ⟨_, rfl, (fun k_ j_ h_ => rfl), by omega⟩
set_option maxHeartbeats 4000000 in
set_option maxRecDepth 20000 in
theorem ct_X11_isDigit (l : Launch) (G : dkG) (hGd : dk_Gd G) (a : Int) : dk_Ct l G dk_Ty yX11_isDigit cX11_isDigit 1 (some .boolean) 1 190 190 (fun av σ => av = [(0, a)]) (fun _ σ r_ σ' => ∃ z : Int, r_ = some (0, z) ∧ (∀ k_ j_ : Int, ¬ (False) → σ' k_ j_ = σ k_ j_) ∧ (z = 1 ∧ (48 ≤ a ∧ a ≤ 57) ∨ z = 0 ∧ (a < 48 ∨ 57 < a))) := by
  refine dk_enter hGd (by decide) (fun av σ hpre hok => ?_)
  subst hpre
  refine ⟨Nat.le_of_ble_eq_true rfl, fun E hE hR _ => ?_⟩
  have hi_a : dk_i32 a := dk_oki (hok _ (by simp))
  show dk_PJ E 0 [(0, a)] [] 190 σ
  refine dk_iload_n (pc' := 1) hE dX11_isDigit_0 rfl rfl rfl ?_
  refine dk_bipush (pc' := 3) hE dX11_isDigit_1 (by decide) rfl ?_
  refine dk_icmp_lt (tgt := 16) (pc' := 6) hE dX11_isDigit_3 (by decide) rfl (fun hc1 => ?_) (fun hc1 => ?_)
  · skip
    refine dk_iconst (pc' := 17) hE dX11_isDigit_16 (by decide) rfl ?_
    exact dk_zret (st := []) hE hR dX11_isDigit_17 (by omega) ⟨_, rfl, (fun k_ j_ h_ => rfl), by omega⟩
  · skip
    refine dk_iload_n (pc' := 7) hE dX11_isDigit_6 rfl rfl rfl ?_
    refine dk_bipush (pc' := 9) hE dX11_isDigit_7 (by decide) rfl ?_
    refine dk_icmp_gt (tgt := 16) (pc' := 12) hE dX11_isDigit_9 (by decide) rfl (fun hc2 => ?_) (fun hc2 => ?_)
    · skip
      refine dk_iconst (pc' := 17) hE dX11_isDigit_16 (by decide) rfl ?_
      exact dk_zret (st := []) hE hR dX11_isDigit_17 (by omega) ⟨_, rfl, (fun k_ j_ h_ => rfl), by omega⟩
    · skip
      refine dk_iconst (pc' := 13) hE dX11_isDigit_12 (by decide) rfl ?_
      refine dk_goto (tgt := 17) hE dX11_isDigit_13 (by decide) ?_
      exact dk_zret (st := []) hE hR dX11_isDigit_17 (by omega) ⟨_, rfl, (fun k_ j_ h_ => rfl), by omega⟩
set_option maxHeartbeats 4000000 in
set_option maxRecDepth 20000 in
theorem ct_X11_isSign (l : Launch) (G : dkG) (hGd : dk_Gd G) (a : Int) : dk_Ct l G dk_Ty yX11_isSign cX11_isSign 1 (some .boolean) 1 190 190 (fun av σ => av = [(0, a)]) (fun _ σ r_ σ' => ∃ z : Int, r_ = some (0, z) ∧ (∀ k_ j_ : Int, ¬ (False) → σ' k_ j_ = σ k_ j_) ∧ (0 ≤ z ∧ z ≤ 1)) := by
  refine dk_enter hGd (by decide) (fun av σ hpre hok => ?_)
  subst hpre
  refine ⟨Nat.le_of_ble_eq_true rfl, fun E hE hR _ => ?_⟩
  have hi_a : dk_i32 a := dk_oki (hok _ (by simp))
  show dk_PJ E 0 [(0, a)] [] 190 σ
  refine dk_iload_n (pc' := 1) hE dX11_isSign_0 rfl rfl rfl ?_
  refine dk_bipush (pc' := 3) hE dX11_isSign_1 (by decide) rfl ?_
  refine dk_icmp_eq (tgt := 54) (pc' := 6) hE dX11_isSign_3 (by decide) rfl (fun hc1 => ?_) (fun hc1 => ?_)
  · skip
    refine dk_iconst (pc' := 55) hE dX11_isSign_54 (by decide) rfl ?_
    refine dk_goto (tgt := 59) hE dX11_isSign_55 (by decide) ?_
    exact dk_zret (st := []) hE hR dX11_isSign_59 (by omega) ⟨_, rfl, (fun k_ j_ h_ => rfl), by omega⟩
  · skip
    refine dk_iload_n (pc' := 7) hE dX11_isSign_6 rfl rfl rfl ?_
    refine dk_bipush (pc' := 9) hE dX11_isSign_7 (by decide) rfl ?_
    refine dk_icmp_eq (tgt := 54) (pc' := 12) hE dX11_isSign_9 (by decide) rfl (fun hc2 => ?_) (fun hc2 => ?_)
    · skip
      refine dk_iconst (pc' := 55) hE dX11_isSign_54 (by decide) rfl ?_
      refine dk_goto (tgt := 59) hE dX11_isSign_55 (by decide) ?_
      exact dk_zret (st := []) hE hR dX11_isSign_59 (by omega) ⟨_, rfl, (fun k_ j_ h_ => rfl), by omega⟩
    · skip
      refine dk_iload_n (pc' := 13) hE dX11_isSign_12 rfl rfl rfl ?_
      refine dk_bipush (pc' := 15) hE dX11_isSign_13 (by decide) rfl ?_
      refine dk_icmp_eq (tgt := 54) (pc' := 18) hE dX11_isSign_15 (by decide) rfl (fun hc3 => ?_) (fun hc3 => ?_)
      · skip
        refine dk_iconst (pc' := 55) hE dX11_isSign_54 (by decide) rfl ?_
        refine dk_goto (tgt := 59) hE dX11_isSign_55 (by decide) ?_
        exact dk_zret (st := []) hE hR dX11_isSign_59 (by omega) ⟨_, rfl, (fun k_ j_ h_ => rfl), by omega⟩
      · skip
        refine dk_iload_n (pc' := 19) hE dX11_isSign_18 rfl rfl rfl ?_
        refine dk_bipush (pc' := 21) hE dX11_isSign_19 (by decide) rfl ?_
        refine dk_icmp_eq (tgt := 54) (pc' := 24) hE dX11_isSign_21 (by decide) rfl (fun hc4 => ?_) (fun hc4 => ?_)
        · skip
          refine dk_iconst (pc' := 55) hE dX11_isSign_54 (by decide) rfl ?_
          refine dk_goto (tgt := 59) hE dX11_isSign_55 (by decide) ?_
          exact dk_zret (st := []) hE hR dX11_isSign_59 (by omega) ⟨_, rfl, (fun k_ j_ h_ => rfl), by omega⟩
        · skip
          refine dk_iload_n (pc' := 25) hE dX11_isSign_24 rfl rfl rfl ?_
          refine dk_bipush (pc' := 27) hE dX11_isSign_25 (by decide) rfl ?_
          refine dk_icmp_eq (tgt := 54) (pc' := 30) hE dX11_isSign_27 (by decide) rfl (fun hc5 => ?_) (fun hc5 => ?_)
          · skip
            refine dk_iconst (pc' := 55) hE dX11_isSign_54 (by decide) rfl ?_
            refine dk_goto (tgt := 59) hE dX11_isSign_55 (by decide) ?_
            exact dk_zret (st := []) hE hR dX11_isSign_59 (by omega) ⟨_, rfl, (fun k_ j_ h_ => rfl), by omega⟩
          · skip
            refine dk_iload_n (pc' := 31) hE dX11_isSign_30 rfl rfl rfl ?_
            refine dk_bipush (pc' := 33) hE dX11_isSign_31 (by decide) rfl ?_
            refine dk_icmp_eq (tgt := 54) (pc' := 36) hE dX11_isSign_33 (by decide) rfl (fun hc6 => ?_) (fun hc6 => ?_)
            · skip
              refine dk_iconst (pc' := 55) hE dX11_isSign_54 (by decide) rfl ?_
              refine dk_goto (tgt := 59) hE dX11_isSign_55 (by decide) ?_
              exact dk_zret (st := []) hE hR dX11_isSign_59 (by omega) ⟨_, rfl, (fun k_ j_ h_ => rfl), by omega⟩
            · skip
              refine dk_iload_n (pc' := 37) hE dX11_isSign_36 rfl rfl rfl ?_
              refine dk_bipush (pc' := 39) hE dX11_isSign_37 (by decide) rfl ?_
              refine dk_icmp_eq (tgt := 54) (pc' := 42) hE dX11_isSign_39 (by decide) rfl (fun hc7 => ?_) (fun hc7 => ?_)
              · skip
                refine dk_iconst (pc' := 55) hE dX11_isSign_54 (by decide) rfl ?_
                refine dk_goto (tgt := 59) hE dX11_isSign_55 (by decide) ?_
                exact dk_zret (st := []) hE hR dX11_isSign_59 (by omega) ⟨_, rfl, (fun k_ j_ h_ => rfl), by omega⟩
              · skip
                refine dk_iload_n (pc' := 43) hE dX11_isSign_42 rfl rfl rfl ?_
                refine dk_bipush (pc' := 45) hE dX11_isSign_43 (by decide) rfl ?_
                refine dk_icmp_eq (tgt := 54) (pc' := 48) hE dX11_isSign_45 (by decide) rfl (fun hc8 => ?_) (fun hc8 => ?_)
                · skip
                  refine dk_iconst (pc' := 55) hE dX11_isSign_54 (by decide) rfl ?_
                  refine dk_goto (tgt := 59) hE dX11_isSign_55 (by decide) ?_
                  exact dk_zret (st := []) hE hR dX11_isSign_59 (by omega) ⟨_, rfl, (fun k_ j_ h_ => rfl), by omega⟩
                · skip
                  refine dk_iload_n (pc' := 49) hE dX11_isSign_48 rfl rfl rfl ?_
                  refine dk_bipush (pc' := 51) hE dX11_isSign_49 (by decide) rfl ?_
                  refine dk_icmp_ne (tgt := 58) (pc' := 54) hE dX11_isSign_51 (by decide) rfl (fun hc9 => ?_) (fun hc9 => ?_)
                  · skip
                    refine dk_iconst (pc' := 59) hE dX11_isSign_58 (by decide) rfl ?_
                    exact dk_zret (st := []) hE hR dX11_isSign_59 (by omega) ⟨_, rfl, (fun k_ j_ h_ => rfl), by omega⟩
                  · skip
                    refine dk_iconst (pc' := 55) hE dX11_isSign_54 (by decide) rfl ?_
                    refine dk_goto (tgt := 59) hE dX11_isSign_55 (by decide) ?_
                    exact dk_zret (st := []) hE hR dX11_isSign_59 (by omega) ⟨_, rfl, (fun k_ j_ h_ => rfl), by omega⟩
set_option maxHeartbeats 4000000 in
set_option maxRecDepth 20000 in
theorem ct_X11_isKept (l : Launch) (G : dkG) (hGd : dk_Gd G) (a : Int) : dk_Ct l G dk_Ty yX11_isKept cX11_isKept 3 (some .boolean) 1 190 190 (fun av σ => av = [(3, a)]) (fun _ σ r_ σ' => ∃ z : Int, r_ = some (0, z) ∧ (∀ k_ j_ : Int, ¬ (False) → σ' k_ j_ = σ k_ j_) ∧ (0 ≤ z ∧ z ≤ 1)) := by
  refine dk_enter hGd (by decide) (fun av σ hpre hok => ?_)
  subst hpre
  refine ⟨Nat.le_of_ble_eq_true rfl, fun E hE hR _ => ?_⟩
  have hi_a : dk_i64 a := dk_okl (hok _ (by simp))
  show dk_PJ E 0 [(3, a), (9, 0), (9, 0)] [] 190 σ
  refine dk_lload_n (pc' := 1) hE dX11_isKept_0 rfl rfl rfl ?_
  refine dk_ldc2 (pc' := 4) hE dX11_isKept_1 cs_X11_170 (by decide) rfl ?_
  refine dk_lcmp (pc' := 5) hE dX11_isKept_4 rfl (fun v1 hv1 => ?_)
  refine dk_if_eq (tgt := 88) (pc' := 8) hE dX11_isKept_5 (by decide) rfl (fun hc2 => ?_) (fun hc2 => ?_)
  · skip
    refine dk_iconst (pc' := 89) hE dX11_isKept_88 (by decide) rfl ?_
    refine dk_goto (tgt := 93) hE dX11_isKept_89 (by decide) ?_
    refine dk_istore_n (pc' := 94) (ls' := [(3, a), (9, 0), (0, 1)]) hE dX11_isKept_93 rfl rfl (by decide) rfl ?_
    refine dk_iload_n (pc' := 95) hE dX11_isKept_94 rfl rfl rfl ?_
    refine dk_if_ne (tgt := 178) (pc' := 98) hE dX11_isKept_95 (by decide) rfl (fun hc3 => ?_) (fun hc3 => absurd hc3 (by decide))
    refine dk_iconst (pc' := 179) hE dX11_isKept_178 (by decide) rfl ?_
    refine dk_goto (tgt := 183) hE dX11_isKept_179 (by decide) ?_
    exact dk_zret (st := []) hE hR dX11_isKept_183 (by omega) ⟨_, rfl, (fun k_ j_ h_ => rfl), by omega⟩
  · skip
    refine dk_lload_n (pc' := 9) hE dX11_isKept_8 rfl rfl rfl ?_
    refine dk_ldc2 (pc' := 12) hE dX11_isKept_9 cs_X11_172 (by decide) rfl ?_
    refine dk_lcmp (pc' := 13) hE dX11_isKept_12 rfl (fun v4 hv4 => ?_)
    refine dk_if_eq (tgt := 88) (pc' := 16) hE dX11_isKept_13 (by decide) rfl (fun hc5 => ?_) (fun hc5 => ?_)
    · skip
      refine dk_iconst (pc' := 89) hE dX11_isKept_88 (by decide) rfl ?_
      refine dk_goto (tgt := 93) hE dX11_isKept_89 (by decide) ?_
      refine dk_istore_n (pc' := 94) (ls' := [(3, a), (9, 0), (0, 1)]) hE dX11_isKept_93 rfl rfl (by decide) rfl ?_
      refine dk_iload_n (pc' := 95) hE dX11_isKept_94 rfl rfl rfl ?_
      refine dk_if_ne (tgt := 178) (pc' := 98) hE dX11_isKept_95 (by decide) rfl (fun hc6 => ?_) (fun hc6 => absurd hc6 (by decide))
      refine dk_iconst (pc' := 179) hE dX11_isKept_178 (by decide) rfl ?_
      refine dk_goto (tgt := 183) hE dX11_isKept_179 (by decide) ?_
      exact dk_zret (st := []) hE hR dX11_isKept_183 (by omega) ⟨_, rfl, (fun k_ j_ h_ => rfl), by omega⟩
    · skip
      refine dk_lload_n (pc' := 17) hE dX11_isKept_16 rfl rfl rfl ?_
      refine dk_ldc2 (pc' := 20) hE dX11_isKept_17 cs_X11_174 (by decide) rfl ?_
      refine dk_lcmp (pc' := 21) hE dX11_isKept_20 rfl (fun v7 hv7 => ?_)
      refine dk_if_eq (tgt := 88) (pc' := 24) hE dX11_isKept_21 (by decide) rfl (fun hc8 => ?_) (fun hc8 => ?_)
      · skip
        refine dk_iconst (pc' := 89) hE dX11_isKept_88 (by decide) rfl ?_
        refine dk_goto (tgt := 93) hE dX11_isKept_89 (by decide) ?_
        refine dk_istore_n (pc' := 94) (ls' := [(3, a), (9, 0), (0, 1)]) hE dX11_isKept_93 rfl rfl (by decide) rfl ?_
        refine dk_iload_n (pc' := 95) hE dX11_isKept_94 rfl rfl rfl ?_
        refine dk_if_ne (tgt := 178) (pc' := 98) hE dX11_isKept_95 (by decide) rfl (fun hc9 => ?_) (fun hc9 => absurd hc9 (by decide))
        refine dk_iconst (pc' := 179) hE dX11_isKept_178 (by decide) rfl ?_
        refine dk_goto (tgt := 183) hE dX11_isKept_179 (by decide) ?_
        exact dk_zret (st := []) hE hR dX11_isKept_183 (by omega) ⟨_, rfl, (fun k_ j_ h_ => rfl), by omega⟩
      · skip
        refine dk_lload_n (pc' := 25) hE dX11_isKept_24 rfl rfl rfl ?_
        refine dk_ldc2 (pc' := 28) hE dX11_isKept_25 cs_X11_176 (by decide) rfl ?_
        refine dk_lcmp (pc' := 29) hE dX11_isKept_28 rfl (fun v10 hv10 => ?_)
        refine dk_if_eq (tgt := 88) (pc' := 32) hE dX11_isKept_29 (by decide) rfl (fun hc11 => ?_) (fun hc11 => ?_)
        · skip
          refine dk_iconst (pc' := 89) hE dX11_isKept_88 (by decide) rfl ?_
          refine dk_goto (tgt := 93) hE dX11_isKept_89 (by decide) ?_
          refine dk_istore_n (pc' := 94) (ls' := [(3, a), (9, 0), (0, 1)]) hE dX11_isKept_93 rfl rfl (by decide) rfl ?_
          refine dk_iload_n (pc' := 95) hE dX11_isKept_94 rfl rfl rfl ?_
          refine dk_if_ne (tgt := 178) (pc' := 98) hE dX11_isKept_95 (by decide) rfl (fun hc12 => ?_) (fun hc12 => absurd hc12 (by decide))
          refine dk_iconst (pc' := 179) hE dX11_isKept_178 (by decide) rfl ?_
          refine dk_goto (tgt := 183) hE dX11_isKept_179 (by decide) ?_
          exact dk_zret (st := []) hE hR dX11_isKept_183 (by omega) ⟨_, rfl, (fun k_ j_ h_ => rfl), by omega⟩
        · skip
          refine dk_lload_n (pc' := 33) hE dX11_isKept_32 rfl rfl rfl ?_
          refine dk_ldc2 (pc' := 36) hE dX11_isKept_33 cs_X11_178 (by decide) rfl ?_
          refine dk_lcmp (pc' := 37) hE dX11_isKept_36 rfl (fun v13 hv13 => ?_)
          refine dk_if_eq (tgt := 88) (pc' := 40) hE dX11_isKept_37 (by decide) rfl (fun hc14 => ?_) (fun hc14 => ?_)
          · skip
            refine dk_iconst (pc' := 89) hE dX11_isKept_88 (by decide) rfl ?_
            refine dk_goto (tgt := 93) hE dX11_isKept_89 (by decide) ?_
            refine dk_istore_n (pc' := 94) (ls' := [(3, a), (9, 0), (0, 1)]) hE dX11_isKept_93 rfl rfl (by decide) rfl ?_
            refine dk_iload_n (pc' := 95) hE dX11_isKept_94 rfl rfl rfl ?_
            refine dk_if_ne (tgt := 178) (pc' := 98) hE dX11_isKept_95 (by decide) rfl (fun hc15 => ?_) (fun hc15 => absurd hc15 (by decide))
            refine dk_iconst (pc' := 179) hE dX11_isKept_178 (by decide) rfl ?_
            refine dk_goto (tgt := 183) hE dX11_isKept_179 (by decide) ?_
            exact dk_zret (st := []) hE hR dX11_isKept_183 (by omega) ⟨_, rfl, (fun k_ j_ h_ => rfl), by omega⟩
          · skip
            refine dk_lload_n (pc' := 41) hE dX11_isKept_40 rfl rfl rfl ?_
            refine dk_ldc2 (pc' := 44) hE dX11_isKept_41 cs_X11_180 (by decide) rfl ?_
            refine dk_lcmp (pc' := 45) hE dX11_isKept_44 rfl (fun v16 hv16 => ?_)
            refine dk_if_eq (tgt := 88) (pc' := 48) hE dX11_isKept_45 (by decide) rfl (fun hc17 => ?_) (fun hc17 => ?_)
            · skip
              refine dk_iconst (pc' := 89) hE dX11_isKept_88 (by decide) rfl ?_
              refine dk_goto (tgt := 93) hE dX11_isKept_89 (by decide) ?_
              refine dk_istore_n (pc' := 94) (ls' := [(3, a), (9, 0), (0, 1)]) hE dX11_isKept_93 rfl rfl (by decide) rfl ?_
              refine dk_iload_n (pc' := 95) hE dX11_isKept_94 rfl rfl rfl ?_
              refine dk_if_ne (tgt := 178) (pc' := 98) hE dX11_isKept_95 (by decide) rfl (fun hc18 => ?_) (fun hc18 => absurd hc18 (by decide))
              refine dk_iconst (pc' := 179) hE dX11_isKept_178 (by decide) rfl ?_
              refine dk_goto (tgt := 183) hE dX11_isKept_179 (by decide) ?_
              exact dk_zret (st := []) hE hR dX11_isKept_183 (by omega) ⟨_, rfl, (fun k_ j_ h_ => rfl), by omega⟩
            · skip
              refine dk_lload_n (pc' := 49) hE dX11_isKept_48 rfl rfl rfl ?_
              refine dk_ldc2 (pc' := 52) hE dX11_isKept_49 cs_X11_182 (by decide) rfl ?_
              refine dk_lcmp (pc' := 53) hE dX11_isKept_52 rfl (fun v19 hv19 => ?_)
              refine dk_if_eq (tgt := 88) (pc' := 56) hE dX11_isKept_53 (by decide) rfl (fun hc20 => ?_) (fun hc20 => ?_)
              · skip
                refine dk_iconst (pc' := 89) hE dX11_isKept_88 (by decide) rfl ?_
                refine dk_goto (tgt := 93) hE dX11_isKept_89 (by decide) ?_
                refine dk_istore_n (pc' := 94) (ls' := [(3, a), (9, 0), (0, 1)]) hE dX11_isKept_93 rfl rfl (by decide) rfl ?_
                refine dk_iload_n (pc' := 95) hE dX11_isKept_94 rfl rfl rfl ?_
                refine dk_if_ne (tgt := 178) (pc' := 98) hE dX11_isKept_95 (by decide) rfl (fun hc21 => ?_) (fun hc21 => absurd hc21 (by decide))
                refine dk_iconst (pc' := 179) hE dX11_isKept_178 (by decide) rfl ?_
                refine dk_goto (tgt := 183) hE dX11_isKept_179 (by decide) ?_
                exact dk_zret (st := []) hE hR dX11_isKept_183 (by omega) ⟨_, rfl, (fun k_ j_ h_ => rfl), by omega⟩
              · skip
                refine dk_lload_n (pc' := 57) hE dX11_isKept_56 rfl rfl rfl ?_
                refine dk_ldc2 (pc' := 60) hE dX11_isKept_57 cs_X11_184 (by decide) rfl ?_
                refine dk_lcmp (pc' := 61) hE dX11_isKept_60 rfl (fun v22 hv22 => ?_)
                refine dk_if_eq (tgt := 88) (pc' := 64) hE dX11_isKept_61 (by decide) rfl (fun hc23 => ?_) (fun hc23 => ?_)
                · skip
                  refine dk_iconst (pc' := 89) hE dX11_isKept_88 (by decide) rfl ?_
                  refine dk_goto (tgt := 93) hE dX11_isKept_89 (by decide) ?_
                  refine dk_istore_n (pc' := 94) (ls' := [(3, a), (9, 0), (0, 1)]) hE dX11_isKept_93 rfl rfl (by decide) rfl ?_
                  refine dk_iload_n (pc' := 95) hE dX11_isKept_94 rfl rfl rfl ?_
                  refine dk_if_ne (tgt := 178) (pc' := 98) hE dX11_isKept_95 (by decide) rfl (fun hc24 => ?_) (fun hc24 => absurd hc24 (by decide))
                  refine dk_iconst (pc' := 179) hE dX11_isKept_178 (by decide) rfl ?_
                  refine dk_goto (tgt := 183) hE dX11_isKept_179 (by decide) ?_
                  exact dk_zret (st := []) hE hR dX11_isKept_183 (by omega) ⟨_, rfl, (fun k_ j_ h_ => rfl), by omega⟩
                · skip
                  refine dk_lload_n (pc' := 65) hE dX11_isKept_64 rfl rfl rfl ?_
                  refine dk_ldc2 (pc' := 68) hE dX11_isKept_65 cs_X11_186 (by decide) rfl ?_
                  refine dk_lcmp (pc' := 69) hE dX11_isKept_68 rfl (fun v25 hv25 => ?_)
                  refine dk_if_eq (tgt := 88) (pc' := 72) hE dX11_isKept_69 (by decide) rfl (fun hc26 => ?_) (fun hc26 => ?_)
                  · skip
                    refine dk_iconst (pc' := 89) hE dX11_isKept_88 (by decide) rfl ?_
                    refine dk_goto (tgt := 93) hE dX11_isKept_89 (by decide) ?_
                    refine dk_istore_n (pc' := 94) (ls' := [(3, a), (9, 0), (0, 1)]) hE dX11_isKept_93 rfl rfl (by decide) rfl ?_
                    refine dk_iload_n (pc' := 95) hE dX11_isKept_94 rfl rfl rfl ?_
                    refine dk_if_ne (tgt := 178) (pc' := 98) hE dX11_isKept_95 (by decide) rfl (fun hc27 => ?_) (fun hc27 => absurd hc27 (by decide))
                    refine dk_iconst (pc' := 179) hE dX11_isKept_178 (by decide) rfl ?_
                    refine dk_goto (tgt := 183) hE dX11_isKept_179 (by decide) ?_
                    exact dk_zret (st := []) hE hR dX11_isKept_183 (by omega) ⟨_, rfl, (fun k_ j_ h_ => rfl), by omega⟩
                  · skip
                    refine dk_lload_n (pc' := 73) hE dX11_isKept_72 rfl rfl rfl ?_
                    refine dk_ldc2 (pc' := 76) hE dX11_isKept_73 cs_X11_188 (by decide) rfl ?_
                    refine dk_lcmp (pc' := 77) hE dX11_isKept_76 rfl (fun v28 hv28 => ?_)
                    refine dk_if_eq (tgt := 88) (pc' := 80) hE dX11_isKept_77 (by decide) rfl (fun hc29 => ?_) (fun hc29 => ?_)
                    · skip
                      refine dk_iconst (pc' := 89) hE dX11_isKept_88 (by decide) rfl ?_
                      refine dk_goto (tgt := 93) hE dX11_isKept_89 (by decide) ?_
                      refine dk_istore_n (pc' := 94) (ls' := [(3, a), (9, 0), (0, 1)]) hE dX11_isKept_93 rfl rfl (by decide) rfl ?_
                      refine dk_iload_n (pc' := 95) hE dX11_isKept_94 rfl rfl rfl ?_
                      refine dk_if_ne (tgt := 178) (pc' := 98) hE dX11_isKept_95 (by decide) rfl (fun hc30 => ?_) (fun hc30 => absurd hc30 (by decide))
                      refine dk_iconst (pc' := 179) hE dX11_isKept_178 (by decide) rfl ?_
                      refine dk_goto (tgt := 183) hE dX11_isKept_179 (by decide) ?_
                      exact dk_zret (st := []) hE hR dX11_isKept_183 (by omega) ⟨_, rfl, (fun k_ j_ h_ => rfl), by omega⟩
                    · skip
                      refine dk_lload_n (pc' := 81) hE dX11_isKept_80 rfl rfl rfl ?_
                      refine dk_ldc2 (pc' := 84) hE dX11_isKept_81 cs_X11_190 (by decide) rfl ?_
                      refine dk_lcmp (pc' := 85) hE dX11_isKept_84 rfl (fun v31 hv31 => ?_)
                      refine dk_if_ne (tgt := 92) (pc' := 88) hE dX11_isKept_85 (by decide) rfl (fun hc32 => ?_) (fun hc32 => ?_)
                      · skip
                        refine dk_iconst (pc' := 93) hE dX11_isKept_92 (by decide) rfl ?_
                        refine dk_istore_n (pc' := 94) (ls' := [(3, a), (9, 0), (0, 0)]) hE dX11_isKept_93 rfl rfl (by decide) rfl ?_
                        refine dk_iload_n (pc' := 95) hE dX11_isKept_94 rfl rfl rfl ?_
                        refine dk_if_ne (tgt := 178) (pc' := 98) hE dX11_isKept_95 (by decide) rfl (fun hc33 => absurd hc33 (by decide)) (fun hc33 => ?_)
                        refine dk_lload_n (pc' := 99) hE dX11_isKept_98 rfl rfl rfl ?_
                        refine dk_ldc2 (pc' := 102) hE dX11_isKept_99 cs_X11_192 (by decide) rfl ?_
                        refine dk_lcmp (pc' := 103) hE dX11_isKept_102 rfl (fun v34 hv34 => ?_)
                        refine dk_if_eq (tgt := 178) (pc' := 106) hE dX11_isKept_103 (by decide) rfl (fun hc35 => ?_) (fun hc35 => ?_)
                        · skip
                          refine dk_iconst (pc' := 179) hE dX11_isKept_178 (by decide) rfl ?_
                          refine dk_goto (tgt := 183) hE dX11_isKept_179 (by decide) ?_
                          exact dk_zret (st := []) hE hR dX11_isKept_183 (by omega) ⟨_, rfl, (fun k_ j_ h_ => rfl), by omega⟩
                        · skip
                          refine dk_lload_n (pc' := 107) hE dX11_isKept_106 rfl rfl rfl ?_
                          refine dk_ldc2 (pc' := 110) hE dX11_isKept_107 cs_X11_194 (by decide) rfl ?_
                          refine dk_lcmp (pc' := 111) hE dX11_isKept_110 rfl (fun v36 hv36 => ?_)
                          refine dk_if_eq (tgt := 178) (pc' := 114) hE dX11_isKept_111 (by decide) rfl (fun hc37 => ?_) (fun hc37 => ?_)
                          · skip
                            refine dk_iconst (pc' := 179) hE dX11_isKept_178 (by decide) rfl ?_
                            refine dk_goto (tgt := 183) hE dX11_isKept_179 (by decide) ?_
                            exact dk_zret (st := []) hE hR dX11_isKept_183 (by omega) ⟨_, rfl, (fun k_ j_ h_ => rfl), by omega⟩
                          · skip
                            refine dk_lload_n (pc' := 115) hE dX11_isKept_114 rfl rfl rfl ?_
                            refine dk_ldc2 (pc' := 118) hE dX11_isKept_115 cs_X11_196 (by decide) rfl ?_
                            refine dk_lcmp (pc' := 119) hE dX11_isKept_118 rfl (fun v38 hv38 => ?_)
                            refine dk_if_eq (tgt := 178) (pc' := 122) hE dX11_isKept_119 (by decide) rfl (fun hc39 => ?_) (fun hc39 => ?_)
                            · skip
                              refine dk_iconst (pc' := 179) hE dX11_isKept_178 (by decide) rfl ?_
                              refine dk_goto (tgt := 183) hE dX11_isKept_179 (by decide) ?_
                              exact dk_zret (st := []) hE hR dX11_isKept_183 (by omega) ⟨_, rfl, (fun k_ j_ h_ => rfl), by omega⟩
                            · skip
                              refine dk_lload_n (pc' := 123) hE dX11_isKept_122 rfl rfl rfl ?_
                              refine dk_ldc2 (pc' := 126) hE dX11_isKept_123 cs_X11_198 (by decide) rfl ?_
                              refine dk_lcmp (pc' := 127) hE dX11_isKept_126 rfl (fun v40 hv40 => ?_)
                              refine dk_if_eq (tgt := 178) (pc' := 130) hE dX11_isKept_127 (by decide) rfl (fun hc41 => ?_) (fun hc41 => ?_)
                              · skip
                                refine dk_iconst (pc' := 179) hE dX11_isKept_178 (by decide) rfl ?_
                                refine dk_goto (tgt := 183) hE dX11_isKept_179 (by decide) ?_
                                exact dk_zret (st := []) hE hR dX11_isKept_183 (by omega) ⟨_, rfl, (fun k_ j_ h_ => rfl), by omega⟩
                              · skip
                                refine dk_lload_n (pc' := 131) hE dX11_isKept_130 rfl rfl rfl ?_
                                refine dk_ldc2 (pc' := 134) hE dX11_isKept_131 cs_X11_200 (by decide) rfl ?_
                                refine dk_lcmp (pc' := 135) hE dX11_isKept_134 rfl (fun v42 hv42 => ?_)
                                refine dk_if_eq (tgt := 178) (pc' := 138) hE dX11_isKept_135 (by decide) rfl (fun hc43 => ?_) (fun hc43 => ?_)
                                · skip
                                  refine dk_iconst (pc' := 179) hE dX11_isKept_178 (by decide) rfl ?_
                                  refine dk_goto (tgt := 183) hE dX11_isKept_179 (by decide) ?_
                                  exact dk_zret (st := []) hE hR dX11_isKept_183 (by omega) ⟨_, rfl, (fun k_ j_ h_ => rfl), by omega⟩
                                · skip
                                  refine dk_lload_n (pc' := 139) hE dX11_isKept_138 rfl rfl rfl ?_
                                  refine dk_ldc2 (pc' := 142) hE dX11_isKept_139 cs_X11_202 (by decide) rfl ?_
                                  refine dk_lcmp (pc' := 143) hE dX11_isKept_142 rfl (fun v44 hv44 => ?_)
                                  refine dk_if_eq (tgt := 178) (pc' := 146) hE dX11_isKept_143 (by decide) rfl (fun hc45 => ?_) (fun hc45 => ?_)
                                  · skip
                                    refine dk_iconst (pc' := 179) hE dX11_isKept_178 (by decide) rfl ?_
                                    refine dk_goto (tgt := 183) hE dX11_isKept_179 (by decide) ?_
                                    exact dk_zret (st := []) hE hR dX11_isKept_183 (by omega) ⟨_, rfl, (fun k_ j_ h_ => rfl), by omega⟩
                                  · skip
                                    refine dk_lload_n (pc' := 147) hE dX11_isKept_146 rfl rfl rfl ?_
                                    refine dk_ldc2 (pc' := 150) hE dX11_isKept_147 cs_X11_204 (by decide) rfl ?_
                                    refine dk_lcmp (pc' := 151) hE dX11_isKept_150 rfl (fun v46 hv46 => ?_)
                                    refine dk_if_eq (tgt := 178) (pc' := 154) hE dX11_isKept_151 (by decide) rfl (fun hc47 => ?_) (fun hc47 => ?_)
                                    · skip
                                      refine dk_iconst (pc' := 179) hE dX11_isKept_178 (by decide) rfl ?_
                                      refine dk_goto (tgt := 183) hE dX11_isKept_179 (by decide) ?_
                                      exact dk_zret (st := []) hE hR dX11_isKept_183 (by omega) ⟨_, rfl, (fun k_ j_ h_ => rfl), by omega⟩
                                    · skip
                                      refine dk_lload_n (pc' := 155) hE dX11_isKept_154 rfl rfl rfl ?_
                                      refine dk_ldc2 (pc' := 158) hE dX11_isKept_155 cs_X11_206 (by decide) rfl ?_
                                      refine dk_lcmp (pc' := 159) hE dX11_isKept_158 rfl (fun v48 hv48 => ?_)
                                      refine dk_if_eq (tgt := 178) (pc' := 162) hE dX11_isKept_159 (by decide) rfl (fun hc49 => ?_) (fun hc49 => ?_)
                                      · skip
                                        refine dk_iconst (pc' := 179) hE dX11_isKept_178 (by decide) rfl ?_
                                        refine dk_goto (tgt := 183) hE dX11_isKept_179 (by decide) ?_
                                        exact dk_zret (st := []) hE hR dX11_isKept_183 (by omega) ⟨_, rfl, (fun k_ j_ h_ => rfl), by omega⟩
                                      · skip
                                        refine dk_lload_n (pc' := 163) hE dX11_isKept_162 rfl rfl rfl ?_
                                        refine dk_ldc2 (pc' := 166) hE dX11_isKept_163 cs_X11_208 (by decide) rfl ?_
                                        refine dk_lcmp (pc' := 167) hE dX11_isKept_166 rfl (fun v50 hv50 => ?_)
                                        refine dk_if_eq (tgt := 178) (pc' := 170) hE dX11_isKept_167 (by decide) rfl (fun hc51 => ?_) (fun hc51 => ?_)
                                        · skip
                                          refine dk_iconst (pc' := 179) hE dX11_isKept_178 (by decide) rfl ?_
                                          refine dk_goto (tgt := 183) hE dX11_isKept_179 (by decide) ?_
                                          exact dk_zret (st := []) hE hR dX11_isKept_183 (by omega) ⟨_, rfl, (fun k_ j_ h_ => rfl), by omega⟩
                                        · skip
                                          refine dk_lload_n (pc' := 171) hE dX11_isKept_170 rfl rfl rfl ?_
                                          refine dk_ldc2 (pc' := 174) hE dX11_isKept_171 cs_X11_210 (by decide) rfl ?_
                                          refine dk_lcmp (pc' := 175) hE dX11_isKept_174 rfl (fun v52 hv52 => ?_)
                                          refine dk_if_ne (tgt := 182) (pc' := 178) hE dX11_isKept_175 (by decide) rfl (fun hc53 => ?_) (fun hc53 => ?_)
                                          · skip
                                            refine dk_iconst (pc' := 183) hE dX11_isKept_182 (by decide) rfl ?_
                                            exact dk_zret (st := []) hE hR dX11_isKept_183 (by omega) ⟨_, rfl, (fun k_ j_ h_ => rfl), by omega⟩
                                          · skip
                                            refine dk_iconst (pc' := 179) hE dX11_isKept_178 (by decide) rfl ?_
                                            refine dk_goto (tgt := 183) hE dX11_isKept_179 (by decide) ?_
                                            exact dk_zret (st := []) hE hR dX11_isKept_183 (by omega) ⟨_, rfl, (fun k_ j_ h_ => rfl), by omega⟩
                      · skip
                        refine dk_iconst (pc' := 89) hE dX11_isKept_88 (by decide) rfl ?_
                        refine dk_goto (tgt := 93) hE dX11_isKept_89 (by decide) ?_
                        refine dk_istore_n (pc' := 94) (ls' := [(3, a), (9, 0), (0, 1)]) hE dX11_isKept_93 rfl rfl (by decide) rfl ?_
                        refine dk_iload_n (pc' := 95) hE dX11_isKept_94 rfl rfl rfl ?_
                        refine dk_if_ne (tgt := 178) (pc' := 98) hE dX11_isKept_95 (by decide) rfl (fun hc54 => ?_) (fun hc54 => absurd hc54 (by decide))
                        refine dk_iconst (pc' := 179) hE dX11_isKept_178 (by decide) rfl ?_
                        refine dk_goto (tgt := 183) hE dX11_isKept_179 (by decide) ?_
                        exact dk_zret (st := []) hE hR dX11_isKept_183 (by omega) ⟨_, rfl, (fun k_ j_ h_ => rfl), by omega⟩
set_option maxHeartbeats 4000000 in
set_option maxRecDepth 20000 in
theorem ct_X11_isIn (l : Launch) (G : dkG) (hGd : dk_Gd G) (v a b : Int) : dk_Ct l G dk_Ty yX11_isIn cX11_isIn 3 (some .boolean) 1 190 190 (fun av σ => av = [(0, v), (0, a), (0, b)]) (fun _ σ r_ σ' => ∃ z : Int, r_ = some (0, z) ∧ (∀ k_ j_ : Int, ¬ (False) → σ' k_ j_ = σ k_ j_) ∧ (z = 1 ∧ (a ≤ v ∧ v ≤ b) ∨ z = 0 ∧ (v < a ∨ b < v))) := by
  refine dk_enter hGd (by decide) (fun av σ hpre hok => ?_)
  subst hpre
  refine ⟨Nat.le_of_ble_eq_true rfl, fun E hE hR _ => ?_⟩
  have hi_v : dk_i32 v := dk_oki (hok _ (by simp))
  have hi_a : dk_i32 a := dk_oki (hok _ (by simp))
  have hi_b : dk_i32 b := dk_oki (hok _ (by simp))
  show dk_PJ E 0 [(0, v), (0, a), (0, b)] [] 190 σ
  refine dk_iload_n (pc' := 1) hE dX11_isIn_0 rfl rfl rfl ?_
  refine dk_iload_n (pc' := 2) hE dX11_isIn_1 rfl rfl rfl ?_
  refine dk_icmp_lt (tgt := 14) (pc' := 5) hE dX11_isIn_2 (by decide) rfl (fun hc1 => ?_) (fun hc1 => ?_)
  · skip
    refine dk_iconst (pc' := 15) hE dX11_isIn_14 (by decide) rfl ?_
    exact dk_zret (st := []) hE hR dX11_isIn_15 (by omega) ⟨_, rfl, (fun k_ j_ h_ => rfl), by omega⟩
  · skip
    refine dk_iload_n (pc' := 6) hE dX11_isIn_5 rfl rfl rfl ?_
    refine dk_iload_n (pc' := 7) hE dX11_isIn_6 rfl rfl rfl ?_
    refine dk_icmp_gt (tgt := 14) (pc' := 10) hE dX11_isIn_7 (by decide) rfl (fun hc2 => ?_) (fun hc2 => ?_)
    · skip
      refine dk_iconst (pc' := 15) hE dX11_isIn_14 (by decide) rfl ?_
      exact dk_zret (st := []) hE hR dX11_isIn_15 (by omega) ⟨_, rfl, (fun k_ j_ h_ => rfl), by omega⟩
    · skip
      refine dk_iconst (pc' := 11) hE dX11_isIn_10 (by decide) rfl ?_
      refine dk_goto (tgt := 15) hE dX11_isIn_11 (by decide) ?_
      exact dk_zret (st := []) hE hR dX11_isIn_15 (by omega) ⟨_, rfl, (fun k_ j_ h_ => rfl), by omega⟩
set_option maxHeartbeats 4000000 in
set_option maxRecDepth 20000 in
theorem ct_X11_isReader (l : Launch) (G : dkG) (hGd : dk_Gd G) (a : Int) : dk_Ct l G dk_Ty yX11_isReader cX11_isReader 1 (some .boolean) 1 190 190 (fun av σ => av = [(0, a)]) (fun _ σ r_ σ' => ∃ z : Int, r_ = some (0, z) ∧ (∀ k_ j_ : Int, ¬ (False) → σ' k_ j_ = σ k_ j_) ∧ (z = 1 ∧ (0 ≤ a ∧ a ≤ 1) ∨ z = 0 ∧ (a < 0 ∨ 1 < a))) := by
  refine dk_enter hGd (by decide) (fun av σ hpre hok => ?_)
  subst hpre
  refine ⟨Nat.le_of_ble_eq_true rfl, fun E hE hR _ => ?_⟩
  have hi_a : dk_i32 a := dk_oki (hok _ (by simp))
  show dk_PJ E 0 [(0, a)] [] 190 σ
  refine dk_iload_n (pc' := 1) hE dX11_isReader_0 rfl rfl rfl ?_
  refine dk_if_eq (tgt := 9) (pc' := 4) hE dX11_isReader_1 (by decide) rfl (fun hc1 => ?_) (fun hc1 => ?_)
  · skip
    refine dk_iconst (pc' := 10) hE dX11_isReader_9 (by decide) rfl ?_
    refine dk_goto (tgt := 14) hE dX11_isReader_10 (by decide) ?_
    exact dk_zret (st := []) hE hR dX11_isReader_14 (by omega) ⟨_, rfl, (fun k_ j_ h_ => rfl), by omega⟩
  · skip
    refine dk_iload_n (pc' := 5) hE dX11_isReader_4 rfl rfl rfl ?_
    refine dk_iconst (pc' := 6) hE dX11_isReader_5 (by decide) rfl ?_
    refine dk_icmp_ne (tgt := 13) (pc' := 9) hE dX11_isReader_6 (by decide) rfl (fun hc2 => ?_) (fun hc2 => ?_)
    · skip
      refine dk_iconst (pc' := 14) hE dX11_isReader_13 (by decide) rfl ?_
      exact dk_zret (st := []) hE hR dX11_isReader_14 (by omega) ⟨_, rfl, (fun k_ j_ h_ => rfl), by omega⟩
    · skip
      refine dk_iconst (pc' := 10) hE dX11_isReader_9 (by decide) rfl ?_
      refine dk_goto (tgt := 14) hE dX11_isReader_10 (by decide) ?_
      exact dk_zret (st := []) hE hR dX11_isReader_14 (by omega) ⟨_, rfl, (fun k_ j_ h_ => rfl), by omega⟩
set_option maxHeartbeats 4000000 in
set_option maxRecDepth 20000 in
theorem ct_X11_isDay (l : Launch) (G : dkG) (hGd : dk_Gd G) (a : Int) : dk_Ct l G dk_Ty yX11_isDay cX11_isDay 1 (some .boolean) 2 190 190 (fun av σ => av = [(0, a)]) (fun _ σ r_ σ' => ∃ z : Int, r_ = some (0, z) ∧ (∀ k_ j_ : Int, ¬ (False) → σ' k_ j_ = σ k_ j_) ∧ (z = 1 ∧ (0 ≤ a ∧ a ≤ 999) ∨ z = 0 ∧ (a < 0 ∨ 999 < a))) := by
  refine dk_enter hGd (by decide) (fun av σ hpre hok => ?_)
  subst hpre
  refine ⟨Nat.le_of_ble_eq_true rfl, fun E hE hR _ => ?_⟩
  have hi_a : dk_i32 a := dk_oki (hok _ (by simp))
  show dk_PJ E 0 [(0, a)] [] 190 σ
  refine dk_iload_n (pc' := 1) hE dX11_isDay_0 rfl rfl rfl ?_
  refine dk_iconst (pc' := 2) hE dX11_isDay_1 (by decide) rfl ?_
  refine dk_sipush (pc' := 5) hE dX11_isDay_2 (by decide) rfl ?_
  refine dk_cS (pc' := 8) (as := [(0, a), (0, 0), (0, 999)]) hE lk_X11_323 (ct_X11_isIn l G hGd a 0 999) dX11_isDay_5 rfl rfl (by decide) (Nat.le_of_ble_eq_true rfl) rfl rfl (fun r2 σ1 hr2 hor2 => ?_)
  obtain ⟨v3, rfl, hfσ1, hpr2⟩ := hr2
  have hsσ1 : σ = σ1 := (funext (fun k => funext (fun j => hfσ1 k j not_false))).symm
  subst hsσ1
  rcases hpr2 with ⟨rfl, hpr2⟩ | ⟨rfl, hpr2⟩
  · skip
    exact dk_zret (st := []) hE hR dX11_isDay_8 (by omega) ⟨_, rfl, (fun k_ j_ h_ => rfl), by omega⟩
  · skip
    exact dk_zret (st := []) hE hR dX11_isDay_8 (by omega) ⟨_, rfl, (fun k_ j_ h_ => rfl), by omega⟩
set_option maxHeartbeats 4000000 in
set_option maxRecDepth 20000 in
theorem ct_X11_parts (l : Launch) (G : dkG) (hGd : dk_Gd G) : dk_Ct l G dk_Ty yX11_parts cX11_parts 1 (some .int) 1 190 190 (fun av σ => av = [(4, 141)]) (fun _ σ r_ σ' => ∃ z : Int, r_ = some (0, z) ∧ (∀ k_ j_ : Int, ¬ (False) → σ' k_ j_ = σ k_ j_) ∧ (z = σ 146 (σ 141 27) ∧ 0 ≤ z ∧ z ≤ 12)) := by
  refine dk_enter hGd (by decide) (fun av σ hpre hok => ?_)
  subst hpre
  refine ⟨Nat.le_of_ble_eq_true rfl, fun E hE hR _ => ?_⟩
  show dk_PJ E 0 [(4, 141)] [] 190 σ
  obtain ⟨b, hb⟩ : ∃ b : Int, b = σ 141 27 := ⟨_, rfl⟩
  refine dk_aload_n (pc' := 1) hE dX11_parts_0 rfl rfl rfl ?_
  refine gf_11_13 (pc' := 4) (w := 146) hE fl_X11_27 dX11_parts_1 is_141 rfl rfl ?_
  refine dk_aload_n (pc' := 5) hE dX11_parts_4 rfl rfl rfl ?_
  refine gf_11_27 (pc' := 8) hE fl_X11_266 dX11_parts_5 is_141 rfl (fun v1 hv1 htv1 hbv1 => ?_)
  have hq1 : b = v1 := (show v1 = b by rw [hv1, hb]).symm
  subst hq1
  refine ga_74 (pc' := 9) hE dX11_parts_8 is_146 (by omega) rfl (fun v2 hv2 htv2 hbv2 => ?_)
  exact dk_iret (st := []) hE hR dX11_parts_9 ⟨_, rfl, (fun k_ j_ h_ => rfl), by rw [← hb]; omega⟩
set_option maxHeartbeats 4000000 in
set_option maxRecDepth 20000 in
theorem ct_X11_works0 (l : Launch) (G : dkG) (hGd : dk_Gd G) : dk_Ct l G dk_Ty yX11_works0 cX11_works0 1 (some .int) 1 190 190 (fun av σ => av = [(4, 141)]) (fun _ σ r_ σ' => ∃ z : Int, r_ = some (0, z) ∧ (∀ k_ j_ : Int, ¬ (False) → σ' k_ j_ = σ k_ j_) ∧ (0 ≤ z ∧ z ≤ 4)) := by
  refine dk_enter hGd (by decide) (fun av σ hpre hok => ?_)
  subst hpre
  refine ⟨Nat.le_of_ble_eq_true rfl, fun E hE hR _ => ?_⟩
  show dk_PJ E 0 [(4, 141)] [] 190 σ
  refine dk_aload_n (pc' := 1) hE dX11_works0_0 rfl rfl rfl ?_
  refine gf_11_12 (pc' := 4) (w := 145) hE fl_X11_24 dX11_works0_1 is_141 rfl rfl ?_
  refine dk_aload_n (pc' := 5) hE dX11_works0_4 rfl rfl rfl ?_
  refine gf_11_27 (pc' := 8) hE fl_X11_266 dX11_works0_5 is_141 rfl (fun v1 hv1 htv1 hbv1 => ?_)
  refine ga_73 (pc' := 9) hE dX11_works0_8 is_145 (by omega) rfl (fun v2 hv2 htv2 hbv2 => ?_)
  exact dk_iret (st := []) hE hR dX11_works0_9 ⟨_, rfl, (fun k_ j_ h_ => rfl), by omega⟩
set_option maxHeartbeats 4000000 in
set_option maxRecDepth 20000 in
theorem ct_X11_isPart (l : Launch) (G : dkG) (hGd : dk_Gd G) (a : Int) : dk_Ct l G dk_Ty yX11_isPart cX11_isPart 2 (some .boolean) 2 190 190 (fun av σ => av = [(4, 141), (0, a)]) (fun _ σ r_ σ' => ∃ z : Int, r_ = some (0, z) ∧ (∀ k_ j_ : Int, ¬ (False) → σ' k_ j_ = σ k_ j_) ∧ (z = 1 ∧ (0 ≤ a ∧ a < 12) ∨ z = 0)) := by
  refine dk_enter hGd (by decide) (fun av σ hpre hok => ?_)
  subst hpre
  refine ⟨Nat.le_of_ble_eq_true rfl, fun E hE hR _ => ?_⟩
  have hi_a : dk_i32 a := dk_oki (hok _ (by simp))
  show dk_PJ E 0 [(4, 141), (0, a)] [] 190 σ
  refine dk_iload_n (pc' := 1) hE dX11_isPart_0 rfl rfl rfl ?_
  refine dk_iconst (pc' := 2) hE dX11_isPart_1 (by decide) rfl ?_
  refine dk_aload_n (pc' := 3) hE dX11_isPart_2 rfl rfl rfl ?_
  refine dk_cV (pc' := 6) (as := []) hE lk_X11_319 (ct_X11_parts l G hGd) dX11_isPart_3 rfl is_141 rfl (by decide) (Nat.le_of_ble_eq_true rfl) rfl rfl (fun r2 σ1 hr2 hor2 => ?_)
  obtain ⟨v3, rfl, hfσ1, hpr2⟩ := hr2
  have hsσ1 : σ = σ1 := (funext (fun k => funext (fun j => hfσ1 k j not_false))).symm
  subst hsσ1
  refine dk_iconst (pc' := 7) hE dX11_isPart_6 (by decide) rfl ?_
  obtain ⟨v4, hv4⟩ : ∃ z : Int, z = v3 - 1 := ⟨_, rfl⟩
  refine dk_isub (pc' := 8) hE dX11_isPart_7 hv4.symm (by omega) rfl ?_
  refine dk_cS (pc' := 11) (as := [(0, a), (0, 0), (0, v4)]) hE lk_X11_323 (ct_X11_isIn l G hGd a 0 v4) dX11_isPart_8 rfl rfl (by decide) (Nat.le_of_ble_eq_true rfl) rfl rfl (fun r6 σ5 hr6 hor6 => ?_)
  obtain ⟨v7, rfl, hfσ5, hpr6⟩ := hr6
  have hsσ5 : σ = σ5 := (funext (fun k => funext (fun j => hfσ5 k j not_false))).symm
  subst hsσ5
  rcases hpr6 with ⟨rfl, hpr6⟩ | ⟨rfl, hpr6⟩
  · skip
    exact dk_zret (st := []) hE hR dX11_isPart_11 (by omega) ⟨_, rfl, (fun k_ j_ h_ => rfl), by omega⟩
  · skip
    exact dk_zret (st := []) hE hR dX11_isPart_11 (by omega) ⟨_, rfl, (fun k_ j_ h_ => rfl), by omega⟩
set_option maxHeartbeats 4000000 in
set_option maxRecDepth 20000 in
theorem ct_X11_isWork (l : Launch) (G : dkG) (hGd : dk_Gd G) (a : Int) : dk_Ct l G dk_Ty yX11_isWork cX11_isWork 2 (some .boolean) 2 190 190 (fun av σ => av = [(4, 141), (0, a)]) (fun _ σ r_ σ' => ∃ z : Int, r_ = some (0, z) ∧ (∀ k_ j_ : Int, ¬ (False) → σ' k_ j_ = σ k_ j_) ∧ (z = 1 ∧ (0 ≤ a ∧ a < 4) ∨ z = 0)) := by
  refine dk_enter hGd (by decide) (fun av σ hpre hok => ?_)
  subst hpre
  refine ⟨Nat.le_of_ble_eq_true rfl, fun E hE hR _ => ?_⟩
  have hi_a : dk_i32 a := dk_oki (hok _ (by simp))
  show dk_PJ E 0 [(4, 141), (0, a)] [] 190 σ
  refine dk_iload_n (pc' := 1) hE dX11_isWork_0 rfl rfl rfl ?_
  refine dk_iconst (pc' := 2) hE dX11_isWork_1 (by decide) rfl ?_
  refine dk_aload_n (pc' := 3) hE dX11_isWork_2 rfl rfl rfl ?_
  refine dk_cV (pc' := 6) (as := []) hE lk_X11_327 (ct_X11_works0 l G hGd) dX11_isWork_3 rfl is_141 rfl (by decide) (Nat.le_of_ble_eq_true rfl) rfl rfl (fun r2 σ1 hr2 hor2 => ?_)
  obtain ⟨v3, rfl, hfσ1, hpr2⟩ := hr2
  have hsσ1 : σ = σ1 := (funext (fun k => funext (fun j => hfσ1 k j not_false))).symm
  subst hsσ1
  refine dk_iconst (pc' := 7) hE dX11_isWork_6 (by decide) rfl ?_
  obtain ⟨v4, hv4⟩ : ∃ z : Int, z = v3 - 1 := ⟨_, rfl⟩
  refine dk_isub (pc' := 8) hE dX11_isWork_7 hv4.symm (by omega) rfl ?_
  refine dk_cS (pc' := 11) (as := [(0, a), (0, 0), (0, v4)]) hE lk_X11_323 (ct_X11_isIn l G hGd a 0 v4) dX11_isWork_8 rfl rfl (by decide) (Nat.le_of_ble_eq_true rfl) rfl rfl (fun r6 σ5 hr6 hor6 => ?_)
  obtain ⟨v7, rfl, hfσ5, hpr6⟩ := hr6
  have hsσ5 : σ = σ5 := (funext (fun k => funext (fun j => hfσ5 k j not_false))).symm
  subst hsσ5
  rcases hpr6 with ⟨rfl, hpr6⟩ | ⟨rfl, hpr6⟩
  · skip
    exact dk_zret (st := []) hE hR dX11_isWork_11 (by omega) ⟨_, rfl, (fun k_ j_ h_ => rfl), by omega⟩
  · skip
    exact dk_zret (st := []) hE hR dX11_isWork_11 (by omega) ⟨_, rfl, (fun k_ j_ h_ => rfl), by omega⟩
set_option maxHeartbeats 4000000 in
set_option maxRecDepth 20000 in
theorem ct_X11_at0 (l : Launch) (G : dkG) (hGd : dk_Gd G) (p : Int) : dk_Ct l G dk_Ty yX11_at0 cX11_at0 2 (some .int) 1 190 190 (fun av σ => av = [(4, 141), (0, p)] ∧ (0 ≤ p ∧ p < 12)) (fun _ σ r_ σ' => ∃ z : Int, r_ = some (0, z) ∧ (∀ k_ j_ : Int, ¬ (False) → σ' k_ j_ = σ k_ j_) ∧ (z = 12 * σ 141 27 + p ∧ 0 ≤ z ∧ z ≤ 23)) := by
  refine dk_enter hGd (by decide) (fun av σ hpre hok => ?_)
  obtain ⟨rfl, hp⟩ := hpre
  refine ⟨Nat.le_of_ble_eq_true rfl, fun E hE hR _ => ?_⟩
  have hi_p : dk_i32 p := dk_oki (hok _ (by simp))
  show dk_PJ E 0 [(4, 141), (0, p)] [] 190 σ
  refine dk_bipush (pc' := 2) hE dX11_at0_0 (by decide) rfl ?_
  refine dk_aload_n (pc' := 3) hE dX11_at0_2 rfl rfl rfl ?_
  refine gf_11_27 (pc' := 6) hE fl_X11_266 dX11_at0_3 is_141 rfl (fun v1 hv1 htv1 hbv1 => ?_)
  obtain ⟨v2, hv2⟩ : ∃ z : Int, z = 12 * v1 := ⟨_, rfl⟩
  refine dk_imul (pc' := 7) hE dX11_at0_6 hv2.symm (by omega) rfl ?_
  refine dk_iload_n (pc' := 8) hE dX11_at0_7 rfl rfl rfl ?_
  obtain ⟨v3, hv3⟩ : ∃ z : Int, z = v2 + p := ⟨_, rfl⟩
  refine dk_iadd (pc' := 9) hE dX11_at0_8 hv3.symm (by omega) rfl ?_
  exact dk_iret (st := []) hE hR dX11_at0_9 ⟨_, rfl, (fun k_ j_ h_ => rfl), by omega⟩
set_option maxHeartbeats 4000000 in
set_option maxRecDepth 20000 in
theorem ct_X11_workOf (l : Launch) (G : dkG) (hGd : dk_Gd G) (p : Int) : dk_Ct l G dk_Ty yX11_workOf cX11_workOf 2 (some .int) 2 190 190 (fun av σ => av = [(4, 141), (0, p)] ∧ (0 ≤ p ∧ p < 12)) (fun _ σ r_ σ' => ∃ z : Int, r_ = some (0, z) ∧ (∀ k_ j_ : Int, ¬ (False) → σ' k_ j_ = σ k_ j_) ∧ (z = σ 151 (12 * σ 141 27 + p) ∧ 0 ≤ z ∧ z ≤ 3)) := by
  refine dk_enter hGd (by decide) (fun av σ hpre hok => ?_)
  obtain ⟨rfl, hp⟩ := hpre
  refine ⟨Nat.le_of_ble_eq_true rfl, fun E hE hR _ => ?_⟩
  have hi_p : dk_i32 p := dk_oki (hok _ (by simp))
  show dk_PJ E 0 [(4, 141), (0, p)] [] 190 σ
  refine dk_aload_n (pc' := 1) hE dX11_workOf_0 rfl rfl rfl ?_
  refine gf_11_18 (pc' := 4) (w := 151) hE fl_X11_42 dX11_workOf_1 is_141 rfl rfl ?_
  refine dk_aload_n (pc' := 5) hE dX11_workOf_4 rfl rfl rfl ?_
  refine dk_iload_n (pc' := 6) hE dX11_workOf_5 rfl rfl rfl ?_
  refine dk_cV (pc' := 9) (as := [(0, p)]) hE lk_X11_330 (ct_X11_at0 l G hGd p) dX11_workOf_6 rfl is_141 rfl (by decide) (Nat.le_of_ble_eq_true rfl) ⟨rfl, (by omega)⟩ rfl (fun r2 σ1 hr2 hor2 => ?_)
  obtain ⟨v3, rfl, hfσ1, hpr2⟩ := hr2
  have H6 := hpr2
  have hsσ1 : σ = σ1 := (funext (fun k => funext (fun j => hfσ1 k j not_false))).symm
  subst hsσ1
  refine ga_79 (pc' := 10) hE dX11_workOf_9 is_151 (by omega) rfl (fun v4 hv4 htv4 hbv4 => ?_)
  exact dk_iret (st := []) hE hR dX11_workOf_10 ⟨_, rfl, (fun k_ j_ h_ => rfl), by rw [← H6.1]; omega⟩
set_option maxHeartbeats 4000000 in
set_option maxRecDepth 20000 in
theorem ct_X11_countsOf (l : Launch) (G : dkG) (hGd : dk_Gd G) (p : Int) : dk_Ct l G dk_Ty yX11_countsOf cX11_countsOf 2 (some .int) 2 190 190 (fun av σ => av = [(4, 141), (0, p)] ∧ (0 ≤ p ∧ p < 12)) (fun _ σ r_ σ' => ∃ z : Int, r_ = some (0, z) ∧ (∀ k_ j_ : Int, ¬ (False) → σ' k_ j_ = σ k_ j_) ∧ (0 ≤ z ∧ z ≤ 32)) := by
  refine dk_enter hGd (by decide) (fun av σ hpre hok => ?_)
  obtain ⟨rfl, hp⟩ := hpre
  refine ⟨Nat.le_of_ble_eq_true rfl, fun E hE hR _ => ?_⟩
  have hi_p : dk_i32 p := dk_oki (hok _ (by simp))
  show dk_PJ E 0 [(4, 141), (0, p)] [] 190 σ
  refine dk_aload_n (pc' := 1) hE dX11_countsOf_0 rfl rfl rfl ?_
  refine gf_11_21 (pc' := 4) (w := 154) hE fl_X11_51 dX11_countsOf_1 is_141 rfl rfl ?_
  refine dk_aload_n (pc' := 5) hE dX11_countsOf_4 rfl rfl rfl ?_
  refine dk_iload_n (pc' := 6) hE dX11_countsOf_5 rfl rfl rfl ?_
  refine dk_cV (pc' := 9) (as := [(0, p)]) hE lk_X11_330 (ct_X11_at0 l G hGd p) dX11_countsOf_6 rfl is_141 rfl (by decide) (Nat.le_of_ble_eq_true rfl) ⟨rfl, (by omega)⟩ rfl (fun r2 σ1 hr2 hor2 => ?_)
  obtain ⟨v3, rfl, hfσ1, hpr2⟩ := hr2
  have hsσ1 : σ = σ1 := (funext (fun k => funext (fun j => hfσ1 k j not_false))).symm
  subst hsσ1
  refine ga_82 (pc' := 10) hE dX11_countsOf_9 is_154 (by omega) rfl (fun v4 hv4 htv4 hbv4 => ?_)
  exact dk_iret (st := []) hE hR dX11_countsOf_10 ⟨_, rfl, (fun k_ j_ h_ => rfl), by omega⟩
set_option maxHeartbeats 4000000 in
set_option maxRecDepth 20000 in
theorem ct_X11_part (l : Launch) (G : dkG) (hGd : dk_Gd G) (p w : Int) : dk_Ct l G dk_Ty yX11_part cX11_part 3 (some .int) 3 190 190 (fun av σ => av = [(4, 141), (0, p), (0, w)]) (fun _ σ r_ σ' => ∃ z : Int, r_ = some (0, z) ∧ (∀ k_ j_ : Int, ¬ (False) → σ' k_ j_ = σ k_ j_) ∧ (True)) := by
  refine dk_enter hGd (by decide) (fun av σ hpre hok => ?_)
  subst hpre
  refine ⟨Nat.le_of_ble_eq_true rfl, fun E hE hR _ => ?_⟩
  have hi_p : dk_i32 p := dk_oki (hok _ (by simp))
  have hi_w : dk_i32 w := dk_oki (hok _ (by simp))
  show dk_PJ E 0 [(4, 141), (0, p), (0, w)] [] 190 σ
  refine dk_aload_n (pc' := 1) hE dX11_part_0 rfl rfl rfl ?_
  refine dk_iload_n (pc' := 2) hE dX11_part_1 rfl rfl rfl ?_
  refine dk_cV (pc' := 5) (as := [(0, p)]) hE lk_X11_333 (ct_X11_isPart l G hGd p) dX11_part_2 rfl is_141 rfl (by decide) (Nat.le_of_ble_eq_true rfl) rfl rfl (fun r2 σ1 hr2 hor2 => ?_)
  obtain ⟨v3, rfl, hfσ1, hpr2⟩ := hr2
  have hsσ1 : σ = σ1 := (funext (fun k => funext (fun j => hfσ1 k j not_false))).symm
  subst hsσ1
  rcases hpr2 with ⟨rfl, hpr2⟩ | rfl
  · skip
    refine dk_if_ne (tgt := 10) (pc' := 8) hE dX11_part_5 (by decide) rfl (fun hc4 => ?_) (fun hc4 => absurd hc4 (by decide))
    refine dk_iload_n (pc' := 11) hE dX11_part_10 rfl rfl rfl ?_
    refine dk_table (tgs := [44, 50, 56, 75, 86]) (td := 97) hE dX11_part_11 (by decide) (by decide) (by decide) (fun hc5 => ?_) (fun i6 t7 q8 hc5 => ?_)
    · skip
      refine dk_iconst (pc' := 98) hE dX11_part_97 (by decide) rfl ?_
      exact dk_iret (st := []) hE hR dX11_part_98 ⟨_, rfl, (fun k_ j_ h_ => rfl), trivial⟩
    · have i6l : i6 < 5 := (List.getElem?_eq_some_iff.mp q8).1
      rcases (show i6 = 0 ∨ i6 = 1 ∨ i6 = 2 ∨ i6 = 3 ∨ i6 = 4 by omega) with rfl | rfl | rfl | rfl | rfl
      · cases q8
        refine dk_aload_n (pc' := 45) hE dX11_part_44 rfl rfl rfl ?_
        refine dk_iload_n (pc' := 46) hE dX11_part_45 rfl rfl rfl ?_
        refine dk_cV (pc' := 49) (as := [(0, p)]) hE lk_X11_336 (ct_X11_workOf l G hGd p) dX11_part_46 rfl is_141 rfl (by decide) (Nat.le_of_ble_eq_true rfl) ⟨rfl, (by omega)⟩ rfl (fun r10 σ9 hr10 hor10 => ?_)
        obtain ⟨v11, rfl, hfσ9, hpr10⟩ := hr10
        have hsσ9 : σ = σ9 := (funext (fun k => funext (fun j => hfσ9 k j not_false))).symm
        subst hsσ9
        exact dk_iret (st := []) hE hR dX11_part_49 ⟨_, rfl, (fun k_ j_ h_ => rfl), trivial⟩
      · cases q8
        refine dk_aload_n (pc' := 51) hE dX11_part_50 rfl rfl rfl ?_
        refine dk_iload_n (pc' := 52) hE dX11_part_51 rfl rfl rfl ?_
        refine dk_cV (pc' := 55) (as := [(0, p)]) hE lk_X11_339 (ct_X11_countsOf l G hGd p) dX11_part_52 rfl is_141 rfl (by decide) (Nat.le_of_ble_eq_true rfl) ⟨rfl, (by omega)⟩ rfl (fun r13 σ12 hr13 hor13 => ?_)
        obtain ⟨v14, rfl, hfσ12, hpr13⟩ := hr13
        have hsσ12 : σ = σ12 := (funext (fun k => funext (fun j => hfσ12 k j not_false))).symm
        subst hsσ12
        exact dk_iret (st := []) hE hR dX11_part_55 ⟨_, rfl, (fun k_ j_ h_ => rfl), trivial⟩
      · cases q8
        refine dk_aload_n (pc' := 57) hE dX11_part_56 rfl rfl rfl ?_
        refine gf_11_24 (pc' := 60) (w := 157) hE fl_X11_60 dX11_part_57 is_141 rfl rfl ?_
        refine dk_aload_n (pc' := 61) hE dX11_part_60 rfl rfl rfl ?_
        refine dk_iload_n (pc' := 62) hE dX11_part_61 rfl rfl rfl ?_
        refine dk_cV (pc' := 65) (as := [(0, p)]) hE lk_X11_330 (ct_X11_at0 l G hGd p) dX11_part_62 rfl is_141 rfl (by decide) (Nat.le_of_ble_eq_true rfl) ⟨rfl, (by omega)⟩ rfl (fun r16 σ15 hr16 hor16 => ?_)
        obtain ⟨v17, rfl, hfσ15, hpr16⟩ := hr16
        have hsσ15 : σ = σ15 := (funext (fun k => funext (fun j => hfσ15 k j not_false))).symm
        subst hsσ15
        refine ga_85 (pc' := 66) hE dX11_part_65 is_157 (by omega) rfl (fun v18 hv18 htv18 hbv18 => ?_)
        refine dk_if_eq (tgt := 73) (pc' := 69) hE dX11_part_66 (by decide) rfl (fun hc19 => ?_) (fun hc19 => ?_)
        · skip
          refine dk_iconst (pc' := 74) hE dX11_part_73 (by decide) rfl ?_
          exact dk_iret (st := []) hE hR dX11_part_74 ⟨_, rfl, (fun k_ j_ h_ => rfl), trivial⟩
        · skip
          refine dk_iconst (pc' := 70) hE dX11_part_69 (by decide) rfl ?_
          refine dk_goto (tgt := 74) hE dX11_part_70 (by decide) ?_
          exact dk_iret (st := []) hE hR dX11_part_74 ⟨_, rfl, (fun k_ j_ h_ => rfl), trivial⟩
      · cases q8
        refine dk_aload_n (pc' := 76) hE dX11_part_75 rfl rfl rfl ?_
        refine gf_11_19 (pc' := 79) (w := 152) hE fl_X11_45 dX11_part_76 is_141 rfl rfl ?_
        refine dk_aload_n (pc' := 80) hE dX11_part_79 rfl rfl rfl ?_
        refine dk_iload_n (pc' := 81) hE dX11_part_80 rfl rfl rfl ?_
        refine dk_cV (pc' := 84) (as := [(0, p)]) hE lk_X11_330 (ct_X11_at0 l G hGd p) dX11_part_81 rfl is_141 rfl (by decide) (Nat.le_of_ble_eq_true rfl) ⟨rfl, (by omega)⟩ rfl (fun r21 σ20 hr21 hor21 => ?_)
        obtain ⟨v22, rfl, hfσ20, hpr21⟩ := hr21
        have hsσ20 : σ = σ20 := (funext (fun k => funext (fun j => hfσ20 k j not_false))).symm
        subst hsσ20
        refine ga_80 (pc' := 85) hE dX11_part_84 is_152 (by omega) rfl (fun v23 hv23 htv23 hbv23 => ?_)
        exact dk_iret (st := []) hE hR dX11_part_85 ⟨_, rfl, (fun k_ j_ h_ => rfl), trivial⟩
      · cases q8
        refine dk_aload_n (pc' := 87) hE dX11_part_86 rfl rfl rfl ?_
        refine gf_11_20 (pc' := 90) (w := 153) hE fl_X11_48 dX11_part_87 is_141 rfl rfl ?_
        refine dk_aload_n (pc' := 91) hE dX11_part_90 rfl rfl rfl ?_
        refine dk_iload_n (pc' := 92) hE dX11_part_91 rfl rfl rfl ?_
        refine dk_cV (pc' := 95) (as := [(0, p)]) hE lk_X11_330 (ct_X11_at0 l G hGd p) dX11_part_92 rfl is_141 rfl (by decide) (Nat.le_of_ble_eq_true rfl) ⟨rfl, (by omega)⟩ rfl (fun r25 σ24 hr25 hor25 => ?_)
        obtain ⟨v26, rfl, hfσ24, hpr25⟩ := hr25
        have hsσ24 : σ = σ24 := (funext (fun k => funext (fun j => hfσ24 k j not_false))).symm
        subst hsσ24
        refine ga_81 (pc' := 96) hE dX11_part_95 is_153 (by omega) rfl (fun v27 hv27 htv27 hbv27 => ?_)
        exact dk_iret (st := []) hE hR dX11_part_96 ⟨_, rfl, (fun k_ j_ h_ => rfl), trivial⟩
  · skip
    refine dk_if_ne (tgt := 10) (pc' := 8) hE dX11_part_5 (by decide) rfl (fun hc28 => absurd hc28 (by decide)) (fun hc28 => ?_)
    refine dk_iconst (pc' := 9) hE dX11_part_8 (by decide) rfl ?_
    exact dk_iret (st := []) hE hR dX11_part_9 ⟨_, rfl, (fun k_ j_ h_ => rfl), trivial⟩
set_option maxHeartbeats 4000000 in
set_option maxRecDepth 20000 in
theorem ct_X11_reads (l : Launch) (G : dkG) (hGd : dk_Gd G) (r a b : Int) : dk_Ct l G dk_Ty yX11_reads cX11_reads 4 (some .boolean) 2 190 190 (fun av σ => av = [(4, 141), (0, r), (0, a), (0, b)]) (fun _ σ r_ σ' => ∃ z : Int, r_ = some (0, z) ∧ (∀ k_ j_ : Int, ¬ (k_ = 160) → σ' k_ j_ = σ k_ j_) ∧ (z = 1 ∧ (0 ≤ r ∧ r ≤ 1 ∧ 0 ≤ a ∧ a ≤ 7 ∧ 0 ≤ b ∧ b ≤ 5) ∨ z = 0 ∧ ¬ (0 ≤ r ∧ r ≤ 1 ∧ 0 ≤ a ∧ a ≤ 7 ∧ 0 ≤ b ∧ b ≤ 5))) := by
  refine dk_enter hGd (by decide) (fun av σ hpre hok => ?_)
  subst hpre
  refine ⟨Nat.le_of_ble_eq_true rfl, fun E hE hR _ => ?_⟩
  have hi_r : dk_i32 r := dk_oki (hok _ (by simp))
  have hi_a : dk_i32 a := dk_oki (hok _ (by simp))
  have hi_b : dk_i32 b := dk_oki (hok _ (by simp))
  show dk_PJ E 0 [(4, 141), (0, r), (0, a), (0, b)] [] 190 σ
  refine dk_iload_n (pc' := 1) hE dX11_reads_0 rfl rfl rfl ?_
  refine dk_cS (pc' := 4) (as := [(0, r)]) hE lk_X11_342 (ct_X11_isReader l G hGd r) dX11_reads_1 rfl rfl (by decide) (Nat.le_of_ble_eq_true rfl) rfl rfl (fun r2 σ1 hr2 hor2 => ?_)
  obtain ⟨v3, rfl, hfσ1, hpr2⟩ := hr2
  have hsσ1 : σ = σ1 := (funext (fun k => funext (fun j => hfσ1 k j not_false))).symm
  subst hsσ1
  rcases hpr2 with ⟨rfl, hpr2⟩ | ⟨rfl, hpr2⟩
  · skip
    refine dk_if_eq (tgt := 26) (pc' := 7) hE dX11_reads_4 (by decide) rfl (fun hc4 => absurd hc4 (by decide)) (fun hc4 => ?_)
    refine dk_iload_n (pc' := 8) hE dX11_reads_7 rfl rfl rfl ?_
    refine dk_iconst (pc' := 9) hE dX11_reads_8 (by decide) rfl ?_
    refine dk_bipush (pc' := 11) hE dX11_reads_9 (by decide) rfl ?_
    refine dk_cS (pc' := 14) (as := [(0, a), (0, 0), (0, 7)]) hE lk_X11_323 (ct_X11_isIn l G hGd a 0 7) dX11_reads_11 rfl rfl (by decide) (Nat.le_of_ble_eq_true rfl) rfl rfl (fun r6 σ5 hr6 hor6 => ?_)
    obtain ⟨v7, rfl, hfσ5, hpr6⟩ := hr6
    have hsσ5 : σ = σ5 := (funext (fun k => funext (fun j => hfσ5 k j not_false))).symm
    subst hsσ5
    rcases hpr6 with ⟨rfl, hpr6⟩ | ⟨rfl, hpr6⟩
    · skip
      refine dk_if_eq (tgt := 26) (pc' := 17) hE dX11_reads_14 (by decide) rfl (fun hc8 => absurd hc8 (by decide)) (fun hc8 => ?_)
      refine dk_iload_n (pc' := 18) hE dX11_reads_17 rfl rfl rfl ?_
      refine dk_iconst (pc' := 19) hE dX11_reads_18 (by decide) rfl ?_
      refine dk_iconst (pc' := 20) hE dX11_reads_19 (by decide) rfl ?_
      refine dk_cS (pc' := 23) (as := [(0, b), (0, 0), (0, 5)]) hE lk_X11_323 (ct_X11_isIn l G hGd b 0 5) dX11_reads_20 rfl rfl (by decide) (Nat.le_of_ble_eq_true rfl) rfl rfl (fun r10 σ9 hr10 hor10 => ?_)
      obtain ⟨v11, rfl, hfσ9, hpr10⟩ := hr10
      have hsσ9 : σ = σ9 := (funext (fun k => funext (fun j => hfσ9 k j not_false))).symm
      subst hsσ9
      rcases hpr10 with ⟨rfl, hpr10⟩ | ⟨rfl, hpr10⟩
      · skip
        refine dk_if_ne (tgt := 28) (pc' := 26) hE dX11_reads_23 (by decide) rfl (fun hc12 => ?_) (fun hc12 => absurd hc12 (by decide))
        refine dk_aload_n (pc' := 29) hE dX11_reads_28 rfl rfl rfl ?_
        refine gf_11_29 (pc' := 32) (w := 160) hE fl_X11_71 dX11_reads_29 is_141 rfl rfl ?_
        refine dk_bipush (pc' := 34) hE dX11_reads_32 (by decide) rfl ?_
        refine dk_iload_n (pc' := 35) hE dX11_reads_34 rfl rfl rfl ?_
        obtain ⟨v13, hv13⟩ : ∃ z : Int, z = 8 * r := ⟨_, rfl⟩
        refine dk_imul (pc' := 36) hE dX11_reads_35 hv13.symm (by omega) rfl ?_
        refine dk_iload_n (pc' := 37) hE dX11_reads_36 rfl rfl rfl ?_
        obtain ⟨v14, hv14⟩ : ∃ z : Int, z = v13 + a := ⟨_, rfl⟩
        refine dk_iadd (pc' := 38) hE dX11_reads_37 hv14.symm (by omega) rfl ?_
        refine dk_iload_n (pc' := 39) hE dX11_reads_38 rfl rfl rfl ?_
        refine pa_88 (pc' := 40) hE dX11_reads_39 is_160 (by omega) (by omega) rfl (fun σ15 eσ15 => ?_)
        refine dk_iconst (pc' := 41) hE dX11_reads_40 (by decide) rfl ?_
        exact dk_zret (st := []) hE hR dX11_reads_41 (by omega) ⟨_, rfl, (fun k_ j_ h_ => by rw [eσ15, dk_up_n (show ¬ (k_ = 160 ∧ j_ = v14) from fun q_ => h_ (q_.1))]), by omega⟩
      · skip
        refine dk_if_ne (tgt := 28) (pc' := 26) hE dX11_reads_23 (by decide) rfl (fun hc16 => absurd hc16 (by decide)) (fun hc16 => ?_)
        refine dk_iconst (pc' := 27) hE dX11_reads_26 (by decide) rfl ?_
        exact dk_zret (st := []) hE hR dX11_reads_27 (by omega) ⟨_, rfl, (fun k_ j_ h_ => rfl), by omega⟩
    · skip
      refine dk_if_eq (tgt := 26) (pc' := 17) hE dX11_reads_14 (by decide) rfl (fun hc17 => ?_) (fun hc17 => absurd hc17 (by decide))
      refine dk_iconst (pc' := 27) hE dX11_reads_26 (by decide) rfl ?_
      exact dk_zret (st := []) hE hR dX11_reads_27 (by omega) ⟨_, rfl, (fun k_ j_ h_ => rfl), by omega⟩
  · skip
    refine dk_if_eq (tgt := 26) (pc' := 7) hE dX11_reads_4 (by decide) rfl (fun hc18 => ?_) (fun hc18 => absurd hc18 (by decide))
    refine dk_iconst (pc' := 27) hE dX11_reads_26 (by decide) rfl ?_
    exact dk_zret (st := []) hE hR dX11_reads_27 (by omega) ⟨_, rfl, (fun k_ j_ h_ => rfl), by omega⟩
set_option maxHeartbeats 4000000 in
set_option maxRecDepth 20000 in
theorem ct_X11_stepAt (l : Launch) (G : dkG) (hGd : dk_Gd G) (p c r : Int) : dk_Ct l G dk_Ty yX11_stepAt cX11_stepAt 5 (some .int) 2 190 190 (fun av σ => av = [(4, 141), (0, p), (0, c), (0, r)] ∧ (0 ≤ p ∧ p < 12) ∧ (1 ≤ c ∧ c ≤ 32) ∧ (0 ≤ r ∧ r ≤ 1)) (fun _ σ r_ σ' => ∃ z : Int, r_ = some (0, z) ∧ (∀ k_ j_ : Int, ¬ (False) → σ' k_ j_ = σ k_ j_) ∧ (0 ≤ z ∧ z ≤ 7)) := by
  refine dk_enter hGd (by decide) (fun av σ hpre hok => ?_)
  obtain ⟨rfl, hp, hc, hr⟩ := hpre
  refine ⟨Nat.le_of_ble_eq_true rfl, fun E hE hR _ => ?_⟩
  have hi_p : dk_i32 p := dk_oki (hok _ (by simp))
  have hi_c : dk_i32 c := dk_oki (hok _ (by simp))
  have hi_r : dk_i32 r := dk_oki (hok _ (by simp))
  show dk_PJ E 0 [(4, 141), (0, p), (0, c), (0, r), (9, 0)] [] 190 σ
  refine dk_aload_n (pc' := 1) hE dX11_stepAt_0 rfl rfl rfl ?_
  refine gf_11_22 (pc' := 4) (w := 155) hE fl_X11_54 dX11_stepAt_1 is_141 rfl rfl ?_
  refine dk_bipush (pc' := 6) hE dX11_stepAt_4 (by decide) rfl ?_
  refine dk_aload_n (pc' := 7) hE dX11_stepAt_6 rfl rfl rfl ?_
  refine dk_iload_n (pc' := 8) hE dX11_stepAt_7 rfl rfl rfl ?_
  refine dk_cV (pc' := 11) (as := [(0, p)]) hE lk_X11_330 (ct_X11_at0 l G hGd p) dX11_stepAt_8 rfl is_141 rfl (by decide) (Nat.le_of_ble_eq_true rfl) ⟨rfl, (by omega)⟩ rfl (fun r2 σ1 hr2 hor2 => ?_)
  obtain ⟨v3, rfl, hfσ1, hpr2⟩ := hr2
  have hsσ1 : σ = σ1 := (funext (fun k => funext (fun j => hfσ1 k j not_false))).symm
  subst hsσ1
  obtain ⟨v4, hv4⟩ : ∃ z : Int, z = 32 * v3 := ⟨_, rfl⟩
  refine dk_imul (pc' := 12) hE dX11_stepAt_11 hv4.symm (by omega) rfl ?_
  refine dk_iload_n (pc' := 13) hE dX11_stepAt_12 rfl rfl rfl ?_
  obtain ⟨v5, hv5⟩ : ∃ z : Int, z = v4 + c := ⟨_, rfl⟩
  refine dk_iadd (pc' := 14) hE dX11_stepAt_13 hv5.symm (by omega) rfl ?_
  refine dk_iconst (pc' := 15) hE dX11_stepAt_14 (by decide) rfl ?_
  obtain ⟨v6, hv6⟩ : ∃ z : Int, z = v5 - 1 := ⟨_, rfl⟩
  refine dk_isub (pc' := 16) hE dX11_stepAt_15 hv6.symm (by omega) rfl ?_
  refine ga_83 (pc' := 17) hE dX11_stepAt_16 is_155 (by omega) rfl (fun v7 hv7 htv7 hbv7 => ?_)
  refine dk_istore (pc' := 19) (ls' := [(4, 141), (0, p), (0, c), (0, r), (0, v7)]) hE dX11_stepAt_17 rfl (by decide) rfl ?_
  refine dk_aload_n (pc' := 20) hE dX11_stepAt_19 rfl rfl rfl ?_
  refine gf_11_24 (pc' := 23) (w := 157) hE fl_X11_60 dX11_stepAt_20 is_141 rfl rfl ?_
  refine dk_aload_n (pc' := 24) hE dX11_stepAt_23 rfl rfl rfl ?_
  refine dk_iload_n (pc' := 25) hE dX11_stepAt_24 rfl rfl rfl ?_
  refine dk_cV (pc' := 28) (as := [(0, p)]) hE lk_X11_330 (ct_X11_at0 l G hGd p) dX11_stepAt_25 rfl is_141 rfl (by decide) (Nat.le_of_ble_eq_true rfl) ⟨rfl, (by omega)⟩ rfl (fun r9 σ8 hr9 hor9 => ?_)
  obtain ⟨v10, rfl, hfσ8, hpr9⟩ := hr9
  have hsσ8 : σ = σ8 := (funext (fun k => funext (fun j => hfσ8 k j not_false))).symm
  subst hsσ8
  refine ga_85 (pc' := 29) hE dX11_stepAt_28 is_157 (by omega) rfl (fun v11 hv11 htv11 hbv11 => ?_)
  refine dk_if_eq (tgt := 47) (pc' := 32) hE dX11_stepAt_29 (by decide) rfl (fun hc12 => ?_) (fun hc12 => ?_)
  · skip
    refine dk_iload (pc' := 49) hE dX11_stepAt_47 rfl rfl ?_
    exact dk_iret (st := []) hE hR dX11_stepAt_49 ⟨_, rfl, (fun k_ j_ h_ => rfl), by omega⟩
  · skip
    refine dk_aload_n (pc' := 33) hE dX11_stepAt_32 rfl rfl rfl ?_
    refine gf_11_29 (pc' := 36) (w := 160) hE fl_X11_71 dX11_stepAt_33 is_141 rfl rfl ?_
    refine dk_bipush (pc' := 38) hE dX11_stepAt_36 (by decide) rfl ?_
    refine dk_iload_n (pc' := 39) hE dX11_stepAt_38 rfl rfl rfl ?_
    obtain ⟨v13, hv13⟩ : ∃ z : Int, z = 8 * r := ⟨_, rfl⟩
    refine dk_imul (pc' := 40) hE dX11_stepAt_39 hv13.symm (by omega) rfl ?_
    refine dk_iload (pc' := 42) hE dX11_stepAt_40 rfl rfl ?_
    obtain ⟨v14, hv14⟩ : ∃ z : Int, z = v13 + v7 := ⟨_, rfl⟩
    refine dk_iadd (pc' := 43) hE dX11_stepAt_42 hv14.symm (by omega) rfl ?_
    refine ga_88 (pc' := 44) hE dX11_stepAt_43 is_160 (by omega) rfl (fun v15 hv15 htv15 hbv15 => ?_)
    refine dk_goto (tgt := 49) hE dX11_stepAt_44 (by decide) ?_
    exact dk_iret (st := []) hE hR dX11_stepAt_49 ⟨_, rfl, (fun k_ j_ h_ => rfl), by omega⟩
set_option maxHeartbeats 4000000 in
set_option maxRecDepth 20000 in
theorem ct_X11_step (l : Launch) (G : dkG) (hGd : dk_Gd G) (p c r : Int) : dk_Ct l G dk_Ty yX11_step cX11_step 4 (some .int) 3 190 190 (fun av σ => av = [(4, 141), (0, p), (0, c), (0, r)]) (fun _ σ r_ σ' => ∃ z : Int, r_ = some (0, z) ∧ (∀ k_ j_ : Int, ¬ (False) → σ' k_ j_ = σ k_ j_) ∧ (True)) := by
  refine dk_enter hGd (by decide) (fun av σ hpre hok => ?_)
  subst hpre
  refine ⟨Nat.le_of_ble_eq_true rfl, fun E hE hR _ => ?_⟩
  have hi_p : dk_i32 p := dk_oki (hok _ (by simp))
  have hi_c : dk_i32 c := dk_oki (hok _ (by simp))
  have hi_r : dk_i32 r := dk_oki (hok _ (by simp))
  show dk_PJ E 0 [(4, 141), (0, p), (0, c), (0, r)] [] 190 σ
  refine dk_aload_n (pc' := 1) hE dX11_step_0 rfl rfl rfl ?_
  refine dk_iload_n (pc' := 2) hE dX11_step_1 rfl rfl rfl ?_
  refine dk_cV (pc' := 5) (as := [(0, p)]) hE lk_X11_333 (ct_X11_isPart l G hGd p) dX11_step_2 rfl is_141 rfl (by decide) (Nat.le_of_ble_eq_true rfl) rfl rfl (fun r2 σ1 hr2 hor2 => ?_)
  obtain ⟨v3, rfl, hfσ1, hpr2⟩ := hr2
  have hsσ1 : σ = σ1 := (funext (fun k => funext (fun j => hfσ1 k j not_false))).symm
  subst hsσ1
  rcases hpr2 with ⟨rfl, hpr2⟩ | rfl
  · skip
    refine dk_if_eq (tgt := 38) (pc' := 8) hE dX11_step_5 (by decide) rfl (fun hc4 => absurd hc4 (by decide)) (fun hc4 => ?_)
    refine dk_iload_n (pc' := 9) hE dX11_step_8 rfl rfl rfl ?_
    refine dk_cS (pc' := 12) (as := [(0, r)]) hE lk_X11_342 (ct_X11_isReader l G hGd r) dX11_step_9 rfl rfl (by decide) (Nat.le_of_ble_eq_true rfl) rfl rfl (fun r6 σ5 hr6 hor6 => ?_)
    obtain ⟨v7, rfl, hfσ5, hpr6⟩ := hr6
    have hsσ5 : σ = σ5 := (funext (fun k => funext (fun j => hfσ5 k j not_false))).symm
    subst hsσ5
    rcases hpr6 with ⟨rfl, hpr6⟩ | ⟨rfl, hpr6⟩
    · skip
      refine dk_if_eq (tgt := 38) (pc' := 15) hE dX11_step_12 (by decide) rfl (fun hc8 => absurd hc8 (by decide)) (fun hc8 => ?_)
      refine dk_iload_n (pc' := 16) hE dX11_step_15 rfl rfl rfl ?_
      refine dk_iconst (pc' := 17) hE dX11_step_16 (by decide) rfl ?_
      refine dk_aload_n (pc' := 18) hE dX11_step_17 rfl rfl rfl ?_
      refine dk_iload_n (pc' := 19) hE dX11_step_18 rfl rfl rfl ?_
      refine dk_cV (pc' := 22) (as := [(0, p)]) hE lk_X11_339 (ct_X11_countsOf l G hGd p) dX11_step_19 rfl is_141 rfl (by decide) (Nat.le_of_ble_eq_true rfl) ⟨rfl, (by omega)⟩ rfl (fun r10 σ9 hr10 hor10 => ?_)
      obtain ⟨v11, rfl, hfσ9, hpr10⟩ := hr10
      have hsσ9 : σ = σ9 := (funext (fun k => funext (fun j => hfσ9 k j not_false))).symm
      subst hsσ9
      refine dk_cS (pc' := 25) (as := [(0, c), (0, 1), (0, v11)]) hE lk_X11_323 (ct_X11_isIn l G hGd c 1 v11) dX11_step_22 rfl rfl (by decide) (Nat.le_of_ble_eq_true rfl) rfl rfl (fun r13 σ12 hr13 hor13 => ?_)
      obtain ⟨v14, rfl, hfσ12, hpr13⟩ := hr13
      have hsσ12 : σ = σ12 := (funext (fun k => funext (fun j => hfσ12 k j not_false))).symm
      subst hsσ12
      rcases hpr13 with ⟨rfl, hpr13⟩ | ⟨rfl, hpr13⟩
      · skip
        refine dk_if_eq (tgt := 38) (pc' := 28) hE dX11_step_25 (by decide) rfl (fun hc15 => absurd hc15 (by decide)) (fun hc15 => ?_)
        refine dk_aload_n (pc' := 29) hE dX11_step_28 rfl rfl rfl ?_
        refine dk_iload_n (pc' := 30) hE dX11_step_29 rfl rfl rfl ?_
        refine dk_iload_n (pc' := 31) hE dX11_step_30 rfl rfl rfl ?_
        refine dk_iload_n (pc' := 32) hE dX11_step_31 rfl rfl rfl ?_
        refine dk_cV (pc' := 35) (as := [(0, p), (0, c), (0, r)]) hE lk_X11_345 (ct_X11_stepAt l G hGd p c r) dX11_step_32 rfl is_141 rfl (by decide) (Nat.le_of_ble_eq_true rfl) ⟨rfl, (by omega), (by omega), (by omega)⟩ rfl (fun r17 σ16 hr17 hor17 => ?_)
        obtain ⟨v18, rfl, hfσ16, hpr17⟩ := hr17
        have hsσ16 : σ = σ16 := (funext (fun k => funext (fun j => hfσ16 k j not_false))).symm
        subst hsσ16
        refine dk_goto (tgt := 39) hE dX11_step_35 (by decide) ?_
        exact dk_iret (st := []) hE hR dX11_step_39 ⟨_, rfl, (fun k_ j_ h_ => rfl), trivial⟩
      · skip
        refine dk_if_eq (tgt := 38) (pc' := 28) hE dX11_step_25 (by decide) rfl (fun hc19 => ?_) (fun hc19 => absurd hc19 (by decide))
        refine dk_iconst (pc' := 39) hE dX11_step_38 (by decide) rfl ?_
        exact dk_iret (st := []) hE hR dX11_step_39 ⟨_, rfl, (fun k_ j_ h_ => rfl), trivial⟩
    · skip
      refine dk_if_eq (tgt := 38) (pc' := 15) hE dX11_step_12 (by decide) rfl (fun hc20 => ?_) (fun hc20 => absurd hc20 (by decide))
      refine dk_iconst (pc' := 39) hE dX11_step_38 (by decide) rfl ?_
      exact dk_iret (st := []) hE hR dX11_step_39 ⟨_, rfl, (fun k_ j_ h_ => rfl), trivial⟩
  · skip
    refine dk_if_eq (tgt := 38) (pc' := 8) hE dX11_step_5 (by decide) rfl (fun hc21 => ?_) (fun hc21 => absurd hc21 (by decide))
    refine dk_iconst (pc' := 39) hE dX11_step_38 (by decide) rfl ?_
    exact dk_iret (st := []) hE hR dX11_step_39 ⟨_, rfl, (fun k_ j_ h_ => rfl), trivial⟩
set_option maxHeartbeats 4000000 in
set_option maxRecDepth 20000 in
theorem ct_X11_go (l : Launch) (G : dkG) (hGd : dk_Gd G) (p c r : Int) : dk_Ct l G dk_Ty yX11_go cX11_go 6 (none) 3 190 190 (fun av σ => av = [(4, 141), (0, p), (0, c), (0, r)] ∧ (0 ≤ p ∧ p < 12) ∧ (0 ≤ r ∧ r ≤ 1)) (fun _ σ r_ σ' => r_ = none ∧ (∀ k_ j_ : Int, ¬ ((k_ = 141 ∧ j_ = 30) ∨ (k_ = 141 ∧ j_ = 31)) → σ' k_ j_ = σ k_ j_) ∧ (True)) := by
  refine dk_enter hGd (by decide) (fun av σ hpre hok => ?_)
  obtain ⟨rfl, hp, hr⟩ := hpre
  refine ⟨Nat.le_of_ble_eq_true rfl, fun E hE hR _ => ?_⟩
  have hi_p : dk_i32 p := dk_oki (hok _ (by simp))
  have hi_c : dk_i32 c := dk_oki (hok _ (by simp))
  have hi_r : dk_i32 r := dk_oki (hok _ (by simp))
  show dk_PJ E 0 [(4, 141), (0, p), (0, c), (0, r), (9, 0), (9, 0)] [] 190 σ
  refine dk_aload_n (pc' := 1) hE dX11_go_0 rfl rfl rfl ?_
  refine dk_aload_n (pc' := 2) hE dX11_go_1 rfl rfl rfl ?_
  refine gf_11_19 (pc' := 5) (w := 152) hE fl_X11_45 dX11_go_2 is_141 rfl rfl ?_
  refine dk_aload_n (pc' := 6) hE dX11_go_5 rfl rfl rfl ?_
  refine dk_iload_n (pc' := 7) hE dX11_go_6 rfl rfl rfl ?_
  refine dk_cV (pc' := 10) (as := [(0, p)]) hE lk_X11_330 (ct_X11_at0 l G hGd p) dX11_go_7 rfl is_141 rfl (by decide) (Nat.le_of_ble_eq_true rfl) ⟨rfl, (by omega)⟩ rfl (fun r2 σ1 hr2 hor2 => ?_)
  obtain ⟨v3, rfl, hfσ1, hpr2⟩ := hr2
  have hsσ1 : σ = σ1 := (funext (fun k => funext (fun j => hfσ1 k j not_false))).symm
  subst hsσ1
  refine ga_80 (pc' := 11) hE dX11_go_10 is_152 (by omega) rfl (fun v4 hv4 htv4 hbv4 => ?_)
  refine pf_11_30 (pc' := 14) hE fl_X11_349 dX11_go_11 is_141 trivial rfl (fun σ5 eσ5 => ?_)
  refine dk_aload_n (pc' := 15) hE dX11_go_14 rfl rfl rfl ?_
  refine dk_aload_n (pc' := 16) hE dX11_go_15 rfl rfl rfl ?_
  refine gf_11_20 (pc' := 19) (w := 153) hE fl_X11_48 dX11_go_16 is_141 rfl rfl ?_
  refine dk_aload_n (pc' := 20) hE dX11_go_19 rfl rfl rfl ?_
  refine dk_iload_n (pc' := 21) hE dX11_go_20 rfl rfl rfl ?_
  refine dk_cV (pc' := 24) (as := [(0, p)]) hE lk_X11_330 (ct_X11_at0 l G hGd p) dX11_go_21 rfl is_141 rfl (by decide) (Nat.le_of_ble_eq_true rfl) ⟨rfl, (by omega)⟩ rfl (fun r7 σ6 hr7 hor7 => ?_)
  obtain ⟨v8, rfl, hfσ6, hpr7⟩ := hr7
  have hsσ6 : σ5 = σ6 := (funext (fun k => funext (fun j => hfσ6 k j not_false))).symm
  subst hsσ6
  refine ga_81 (pc' := 25) hE dX11_go_24 is_153 (by omega) rfl (fun v9 hv9 htv9 hbv9 => ?_)
  refine pf_11_31 (pc' := 28) hE fl_X11_352 dX11_go_25 is_141 trivial rfl (fun σ10 eσ10 => ?_)
  refine dk_iconst (pc' := 29) hE dX11_go_28 (by decide) rfl ?_
  refine dk_istore (pc' := 31) (ls' := [(4, 141), (0, p), (0, c), (0, r), (0, 1), (9, 0)]) hE dX11_go_29 rfl (by decide) rfl ?_
  have lp31 : ∀ (N_ : Nat) (i : Int) (σ31c : dkS), (2147483648 - i).toNat < N_ → ((∀ k_ j_ : Int, ¬ ((k_ = 141 ∧ j_ = 30) ∨ (k_ = 141 ∧ j_ = 31)) → σ31c k_ j_ = σ10 k_ j_)) → (0 ≤ i) → (1 ≤ i) → dk_PJ E 31 [(4, 141), (0, p), (0, c), (0, r), (0, i), (9, 0)] [] 190 σ31c := by
    intro N31
    induction N31 with
    | zero => intro i σ31c hm; exact absurd hm (Nat.not_lt_zero _)
    | succ N31 ih31 =>
      intro i σ31c hm31 hF31 hi0 hi1
      refine dk_iload (pc' := 33) hE dX11_go_31 rfl rfl ?_
      refine dk_iload_n (pc' := 34) hE dX11_go_33 rfl rfl rfl ?_
      refine dk_icmp_gt (tgt := 122) (pc' := 37) hE dX11_go_34 (by decide) rfl (fun hc11 => ?_) (fun hc11 => ?_)
      · skip
        exact dk_vret (st := []) hE hR dX11_go_122 ⟨rfl, (fun k_ j_ h_ => by rw [hF31 k_ j_ (fun w_ => h_ (w_.elim (fun x0_ => Or.inl (x0_)) (fun y0_ => Or.inr (y0_)))), eσ10, dk_up_n (show ¬ (k_ = 141 ∧ j_ = 31) from fun q_ => h_ (Or.inr (q_))), eσ5, dk_up_n (show ¬ (k_ = 141 ∧ j_ = 30) from fun q_ => h_ (Or.inl (q_)))]), trivial⟩
      · skip
        refine dk_iload (pc' := 39) hE dX11_go_37 rfl rfl ?_
        refine dk_aload_n (pc' := 40) hE dX11_go_39 rfl rfl rfl ?_
        refine dk_iload_n (pc' := 41) hE dX11_go_40 rfl rfl rfl ?_
        refine dk_cV (pc' := 44) (as := [(0, p)]) hE lk_X11_339 (ct_X11_countsOf l G hGd p) dX11_go_41 rfl is_141 rfl (by decide) (Nat.le_of_ble_eq_true rfl) ⟨rfl, (by omega)⟩ rfl (fun r13 σ12 hr13 hor13 => ?_)
        obtain ⟨v14, rfl, hfσ12, hpr13⟩ := hr13
        have hsσ12 : σ31c = σ12 := (funext (fun k => funext (fun j => hfσ12 k j not_false))).symm
        subst hsσ12
        refine dk_icmp_gt (tgt := 122) (pc' := 47) hE dX11_go_44 (by decide) rfl (fun hc15 => ?_) (fun hc15 => ?_)
        · skip
          exact dk_vret (st := []) hE hR dX11_go_122 ⟨rfl, (fun k_ j_ h_ => by rw [hF31 k_ j_ (fun w_ => h_ (w_.elim (fun x0_ => Or.inl (x0_)) (fun y0_ => Or.inr (y0_)))), eσ10, dk_up_n (show ¬ (k_ = 141 ∧ j_ = 31) from fun q_ => h_ (Or.inr (q_))), eσ5, dk_up_n (show ¬ (k_ = 141 ∧ j_ = 30) from fun q_ => h_ (Or.inl (q_)))]), trivial⟩
        · skip
          refine dk_aload_n (pc' := 48) hE dX11_go_47 rfl rfl rfl ?_
          refine dk_iload_n (pc' := 49) hE dX11_go_48 rfl rfl rfl ?_
          refine dk_iload (pc' := 51) hE dX11_go_49 rfl rfl ?_
          refine dk_iload_n (pc' := 52) hE dX11_go_51 rfl rfl rfl ?_
          refine dk_cV (pc' := 55) (as := [(0, p), (0, i), (0, r)]) hE lk_X11_345 (ct_X11_stepAt l G hGd p i r) dX11_go_52 rfl is_141 rfl (by decide) (Nat.le_of_ble_eq_true rfl) ⟨rfl, (by omega), (by omega), (by omega)⟩ rfl (fun r17 σ16 hr17 hor17 => ?_)
          obtain ⟨v18, rfl, hfσ16, hpr17⟩ := hr17
          have hsσ16 : σ31c = σ16 := (funext (fun k => funext (fun j => hfσ16 k j not_false))).symm
          subst hsσ16
          refine dk_istore (pc' := 57) (ls' := [(4, 141), (0, p), (0, c), (0, r), (0, i), (0, v18)]) hE dX11_go_55 rfl (by decide) rfl ?_
          refine dk_aload_n (pc' := 58) hE dX11_go_57 rfl rfl rfl ?_
          refine dk_dup (pc' := 59) hE dX11_go_58 (show (4 : Nat) ≠ 3 by decide) rfl ?_
          refine gf_11_31 (pc' := 62) hE fl_X11_352 dX11_go_59 is_141 rfl (fun v19 hv19 htv19 hbv19 => ?_)
          refine dk_iload (pc' := 64) hE dX11_go_62 rfl rfl ?_
          refine dk_if_ne (tgt := 71) (pc' := 67) hE dX11_go_64 (by decide) rfl (fun hc20 => ?_) (fun hc20 => ?_)
          · skip
            refine dk_iload (pc' := 73) hE dX11_go_71 rfl rfl ?_
            refine dk_iconst (pc' := 74) hE dX11_go_73 (by decide) rfl ?_
            refine dk_icmp_ne (tgt := 81) (pc' := 77) hE dX11_go_74 (by decide) rfl (fun hc21 => ?_) (fun hc21 => ?_)
            · skip
              refine dk_iconst (pc' := 82) hE dX11_go_81 (by decide) rfl ?_
              refine dk_iaddW (pc' := 83) hE dX11_go_82 rfl (fun v22 hv22 _ => ?_)
              refine pf_11_31 (pc' := 86) hE fl_X11_352 dX11_go_83 is_141 trivial rfl (fun σ23 eσ23 => ?_)
              refine dk_aload_n (pc' := 87) hE dX11_go_86 rfl rfl rfl ?_
              refine dk_dup (pc' := 88) hE dX11_go_87 (show (4 : Nat) ≠ 3 by decide) rfl ?_
              refine gf_11_30 (pc' := 91) hE fl_X11_349 dX11_go_88 is_141 rfl (fun v24 hv24 htv24 hbv24 => ?_)
              refine dk_iload (pc' := 93) hE dX11_go_91 rfl rfl ?_
              refine dk_iconst (pc' := 94) hE dX11_go_93 (by decide) rfl ?_
              refine dk_icmp_ne (tgt := 101) (pc' := 97) hE dX11_go_94 (by decide) rfl (fun hc25 => ?_) (fun hc25 => ?_)
              · skip
                refine dk_iload (pc' := 103) hE dX11_go_101 rfl rfl ?_
                refine dk_iconst (pc' := 104) hE dX11_go_103 (by decide) rfl ?_
                refine dk_icmp_ne (tgt := 111) (pc' := 107) hE dX11_go_104 (by decide) rfl (fun hc26 => ?_) (fun hc26 => ?_)
                · skip
                  refine dk_iconst (pc' := 112) hE dX11_go_111 (by decide) rfl ?_
                  refine dk_iaddW (pc' := 113) hE dX11_go_112 rfl (fun v27 hv27 _ => ?_)
                  refine pf_11_30 (pc' := 116) hE fl_X11_349 dX11_go_113 is_141 trivial rfl (fun σ28 eσ28 => ?_)
                  obtain ⟨v29, hv29⟩ : ∃ z : Int, z = i + 1 := ⟨_, rfl⟩
                  refine dk_iinc (pc' := 119) (ls' := [(4, 141), (0, p), (0, c), (0, r), (0, v29), (0, v18)]) hE dX11_go_116 rfl hv29.symm (by omega) rfl (by decide) rfl ?_
                  refine dk_goto (tgt := 31) hE dX11_go_119 (by decide) ?_
                  refine dk_drop (ls' := [(4, 141), (0, p), (0, c), (0, r), (0, v29), (9, 0)]) [true, true, true, true, true, false] rfl ?_
                  exact ih31 v29 σ28 (by omega) (fun k_ j_ h_ => by rw [eσ28, dk_up_n (show ¬ (k_ = 141 ∧ j_ = 30) from fun q_ => h_ (Or.inl (q_))), eσ23, dk_up_n (show ¬ (k_ = 141 ∧ j_ = 31) from fun q_ => h_ (Or.inr (q_))), hF31 k_ j_ (fun w_ => h_ (w_.elim (fun x0_ => Or.inl (x0_)) (fun y0_ => Or.inr (y0_))))]) (by omega) (by omega)
                · skip
                  refine dk_iconst (pc' := 108) hE dX11_go_107 (by decide) rfl ?_
                  refine dk_goto (tgt := 112) hE dX11_go_108 (by decide) ?_
                  refine dk_iaddW (pc' := 113) hE dX11_go_112 rfl (fun v30 hv30 _ => ?_)
                  refine pf_11_30 (pc' := 116) hE fl_X11_349 dX11_go_113 is_141 trivial rfl (fun σ31 eσ31 => ?_)
                  obtain ⟨v32, hv32⟩ : ∃ z : Int, z = i + 1 := ⟨_, rfl⟩
                  refine dk_iinc (pc' := 119) (ls' := [(4, 141), (0, p), (0, c), (0, r), (0, v32), (0, v18)]) hE dX11_go_116 rfl hv32.symm (by omega) rfl (by decide) rfl ?_
                  refine dk_goto (tgt := 31) hE dX11_go_119 (by decide) ?_
                  refine dk_drop (ls' := [(4, 141), (0, p), (0, c), (0, r), (0, v32), (9, 0)]) [true, true, true, true, true, false] rfl ?_
                  exact ih31 v32 σ31 (by omega) (fun k_ j_ h_ => by rw [eσ31, dk_up_n (show ¬ (k_ = 141 ∧ j_ = 30) from fun q_ => h_ (Or.inl (q_))), eσ23, dk_up_n (show ¬ (k_ = 141 ∧ j_ = 31) from fun q_ => h_ (Or.inr (q_))), hF31 k_ j_ (fun w_ => h_ (w_.elim (fun x0_ => Or.inl (x0_)) (fun y0_ => Or.inr (y0_))))]) (by omega) (by omega)
              · skip
                refine dk_iconst (pc' := 98) hE dX11_go_97 (by decide) rfl ?_
                refine dk_goto (tgt := 112) hE dX11_go_98 (by decide) ?_
                refine dk_iaddW (pc' := 113) hE dX11_go_112 rfl (fun v33 hv33 _ => ?_)
                refine pf_11_30 (pc' := 116) hE fl_X11_349 dX11_go_113 is_141 trivial rfl (fun σ34 eσ34 => ?_)
                obtain ⟨v35, hv35⟩ : ∃ z : Int, z = i + 1 := ⟨_, rfl⟩
                refine dk_iinc (pc' := 119) (ls' := [(4, 141), (0, p), (0, c), (0, r), (0, v35), (0, v18)]) hE dX11_go_116 rfl hv35.symm (by omega) rfl (by decide) rfl ?_
                refine dk_goto (tgt := 31) hE dX11_go_119 (by decide) ?_
                refine dk_drop (ls' := [(4, 141), (0, p), (0, c), (0, r), (0, v35), (9, 0)]) [true, true, true, true, true, false] rfl ?_
                exact ih31 v35 σ34 (by omega) (fun k_ j_ h_ => by rw [eσ34, dk_up_n (show ¬ (k_ = 141 ∧ j_ = 30) from fun q_ => h_ (Or.inl (q_))), eσ23, dk_up_n (show ¬ (k_ = 141 ∧ j_ = 31) from fun q_ => h_ (Or.inr (q_))), hF31 k_ j_ (fun w_ => h_ (w_.elim (fun x0_ => Or.inl (x0_)) (fun y0_ => Or.inr (y0_))))]) (by omega) (by omega)
            · skip
              refine dk_iconst (pc' := 78) hE dX11_go_77 (by decide) rfl ?_
              refine dk_goto (tgt := 82) hE dX11_go_78 (by decide) ?_
              refine dk_iaddW (pc' := 83) hE dX11_go_82 rfl (fun v36 hv36 _ => ?_)
              refine pf_11_31 (pc' := 86) hE fl_X11_352 dX11_go_83 is_141 trivial rfl (fun σ37 eσ37 => ?_)
              refine dk_aload_n (pc' := 87) hE dX11_go_86 rfl rfl rfl ?_
              refine dk_dup (pc' := 88) hE dX11_go_87 (show (4 : Nat) ≠ 3 by decide) rfl ?_
              refine gf_11_30 (pc' := 91) hE fl_X11_349 dX11_go_88 is_141 rfl (fun v38 hv38 htv38 hbv38 => ?_)
              refine dk_iload (pc' := 93) hE dX11_go_91 rfl rfl ?_
              refine dk_iconst (pc' := 94) hE dX11_go_93 (by decide) rfl ?_
              refine dk_icmp_ne (tgt := 101) (pc' := 97) hE dX11_go_94 (by decide) rfl (fun hc39 => ?_) (fun hc39 => ?_)
              · skip
                refine dk_iload (pc' := 103) hE dX11_go_101 rfl rfl ?_
                refine dk_iconst (pc' := 104) hE dX11_go_103 (by decide) rfl ?_
                refine dk_icmp_ne (tgt := 111) (pc' := 107) hE dX11_go_104 (by decide) rfl (fun hc40 => ?_) (fun hc40 => ?_)
                · skip
                  refine dk_iconst (pc' := 112) hE dX11_go_111 (by decide) rfl ?_
                  refine dk_iaddW (pc' := 113) hE dX11_go_112 rfl (fun v41 hv41 _ => ?_)
                  refine pf_11_30 (pc' := 116) hE fl_X11_349 dX11_go_113 is_141 trivial rfl (fun σ42 eσ42 => ?_)
                  obtain ⟨v43, hv43⟩ : ∃ z : Int, z = i + 1 := ⟨_, rfl⟩
                  refine dk_iinc (pc' := 119) (ls' := [(4, 141), (0, p), (0, c), (0, r), (0, v43), (0, v18)]) hE dX11_go_116 rfl hv43.symm (by omega) rfl (by decide) rfl ?_
                  refine dk_goto (tgt := 31) hE dX11_go_119 (by decide) ?_
                  refine dk_drop (ls' := [(4, 141), (0, p), (0, c), (0, r), (0, v43), (9, 0)]) [true, true, true, true, true, false] rfl ?_
                  exact ih31 v43 σ42 (by omega) (fun k_ j_ h_ => by rw [eσ42, dk_up_n (show ¬ (k_ = 141 ∧ j_ = 30) from fun q_ => h_ (Or.inl (q_))), eσ37, dk_up_n (show ¬ (k_ = 141 ∧ j_ = 31) from fun q_ => h_ (Or.inr (q_))), hF31 k_ j_ (fun w_ => h_ (w_.elim (fun x0_ => Or.inl (x0_)) (fun y0_ => Or.inr (y0_))))]) (by omega) (by omega)
                · skip
                  refine dk_iconst (pc' := 108) hE dX11_go_107 (by decide) rfl ?_
                  refine dk_goto (tgt := 112) hE dX11_go_108 (by decide) ?_
                  refine dk_iaddW (pc' := 113) hE dX11_go_112 rfl (fun v44 hv44 _ => ?_)
                  refine pf_11_30 (pc' := 116) hE fl_X11_349 dX11_go_113 is_141 trivial rfl (fun σ45 eσ45 => ?_)
                  obtain ⟨v46, hv46⟩ : ∃ z : Int, z = i + 1 := ⟨_, rfl⟩
                  refine dk_iinc (pc' := 119) (ls' := [(4, 141), (0, p), (0, c), (0, r), (0, v46), (0, v18)]) hE dX11_go_116 rfl hv46.symm (by omega) rfl (by decide) rfl ?_
                  refine dk_goto (tgt := 31) hE dX11_go_119 (by decide) ?_
                  refine dk_drop (ls' := [(4, 141), (0, p), (0, c), (0, r), (0, v46), (9, 0)]) [true, true, true, true, true, false] rfl ?_
                  exact ih31 v46 σ45 (by omega) (fun k_ j_ h_ => by rw [eσ45, dk_up_n (show ¬ (k_ = 141 ∧ j_ = 30) from fun q_ => h_ (Or.inl (q_))), eσ37, dk_up_n (show ¬ (k_ = 141 ∧ j_ = 31) from fun q_ => h_ (Or.inr (q_))), hF31 k_ j_ (fun w_ => h_ (w_.elim (fun x0_ => Or.inl (x0_)) (fun y0_ => Or.inr (y0_))))]) (by omega) (by omega)
              · skip
                refine dk_iconst (pc' := 98) hE dX11_go_97 (by decide) rfl ?_
                refine dk_goto (tgt := 112) hE dX11_go_98 (by decide) ?_
                refine dk_iaddW (pc' := 113) hE dX11_go_112 rfl (fun v47 hv47 _ => ?_)
                refine pf_11_30 (pc' := 116) hE fl_X11_349 dX11_go_113 is_141 trivial rfl (fun σ48 eσ48 => ?_)
                obtain ⟨v49, hv49⟩ : ∃ z : Int, z = i + 1 := ⟨_, rfl⟩
                refine dk_iinc (pc' := 119) (ls' := [(4, 141), (0, p), (0, c), (0, r), (0, v49), (0, v18)]) hE dX11_go_116 rfl hv49.symm (by omega) rfl (by decide) rfl ?_
                refine dk_goto (tgt := 31) hE dX11_go_119 (by decide) ?_
                refine dk_drop (ls' := [(4, 141), (0, p), (0, c), (0, r), (0, v49), (9, 0)]) [true, true, true, true, true, false] rfl ?_
                exact ih31 v49 σ48 (by omega) (fun k_ j_ h_ => by rw [eσ48, dk_up_n (show ¬ (k_ = 141 ∧ j_ = 30) from fun q_ => h_ (Or.inl (q_))), eσ37, dk_up_n (show ¬ (k_ = 141 ∧ j_ = 31) from fun q_ => h_ (Or.inr (q_))), hF31 k_ j_ (fun w_ => h_ (w_.elim (fun x0_ => Or.inl (x0_)) (fun y0_ => Or.inr (y0_))))]) (by omega) (by omega)
          · skip
            refine dk_iconst (pc' := 68) hE dX11_go_67 (by decide) rfl ?_
            refine dk_goto (tgt := 82) hE dX11_go_68 (by decide) ?_
            refine dk_iaddW (pc' := 83) hE dX11_go_82 rfl (fun v50 hv50 _ => ?_)
            refine pf_11_31 (pc' := 86) hE fl_X11_352 dX11_go_83 is_141 trivial rfl (fun σ51 eσ51 => ?_)
            refine dk_aload_n (pc' := 87) hE dX11_go_86 rfl rfl rfl ?_
            refine dk_dup (pc' := 88) hE dX11_go_87 (show (4 : Nat) ≠ 3 by decide) rfl ?_
            refine gf_11_30 (pc' := 91) hE fl_X11_349 dX11_go_88 is_141 rfl (fun v52 hv52 htv52 hbv52 => ?_)
            refine dk_iload (pc' := 93) hE dX11_go_91 rfl rfl ?_
            refine dk_iconst (pc' := 94) hE dX11_go_93 (by decide) rfl ?_
            refine dk_icmp_ne (tgt := 101) (pc' := 97) hE dX11_go_94 (by decide) rfl (fun hc53 => ?_) (fun hc53 => ?_)
            · skip
              refine dk_iload (pc' := 103) hE dX11_go_101 rfl rfl ?_
              refine dk_iconst (pc' := 104) hE dX11_go_103 (by decide) rfl ?_
              refine dk_icmp_ne (tgt := 111) (pc' := 107) hE dX11_go_104 (by decide) rfl (fun hc54 => ?_) (fun hc54 => ?_)
              · skip
                refine dk_iconst (pc' := 112) hE dX11_go_111 (by decide) rfl ?_
                refine dk_iaddW (pc' := 113) hE dX11_go_112 rfl (fun v55 hv55 _ => ?_)
                refine pf_11_30 (pc' := 116) hE fl_X11_349 dX11_go_113 is_141 trivial rfl (fun σ56 eσ56 => ?_)
                obtain ⟨v57, hv57⟩ : ∃ z : Int, z = i + 1 := ⟨_, rfl⟩
                refine dk_iinc (pc' := 119) (ls' := [(4, 141), (0, p), (0, c), (0, r), (0, v57), (0, v18)]) hE dX11_go_116 rfl hv57.symm (by omega) rfl (by decide) rfl ?_
                refine dk_goto (tgt := 31) hE dX11_go_119 (by decide) ?_
                refine dk_drop (ls' := [(4, 141), (0, p), (0, c), (0, r), (0, v57), (9, 0)]) [true, true, true, true, true, false] rfl ?_
                exact ih31 v57 σ56 (by omega) (fun k_ j_ h_ => by rw [eσ56, dk_up_n (show ¬ (k_ = 141 ∧ j_ = 30) from fun q_ => h_ (Or.inl (q_))), eσ51, dk_up_n (show ¬ (k_ = 141 ∧ j_ = 31) from fun q_ => h_ (Or.inr (q_))), hF31 k_ j_ (fun w_ => h_ (w_.elim (fun x0_ => Or.inl (x0_)) (fun y0_ => Or.inr (y0_))))]) (by omega) (by omega)
              · skip
                refine dk_iconst (pc' := 108) hE dX11_go_107 (by decide) rfl ?_
                refine dk_goto (tgt := 112) hE dX11_go_108 (by decide) ?_
                refine dk_iaddW (pc' := 113) hE dX11_go_112 rfl (fun v58 hv58 _ => ?_)
                refine pf_11_30 (pc' := 116) hE fl_X11_349 dX11_go_113 is_141 trivial rfl (fun σ59 eσ59 => ?_)
                obtain ⟨v60, hv60⟩ : ∃ z : Int, z = i + 1 := ⟨_, rfl⟩
                refine dk_iinc (pc' := 119) (ls' := [(4, 141), (0, p), (0, c), (0, r), (0, v60), (0, v18)]) hE dX11_go_116 rfl hv60.symm (by omega) rfl (by decide) rfl ?_
                refine dk_goto (tgt := 31) hE dX11_go_119 (by decide) ?_
                refine dk_drop (ls' := [(4, 141), (0, p), (0, c), (0, r), (0, v60), (9, 0)]) [true, true, true, true, true, false] rfl ?_
                exact ih31 v60 σ59 (by omega) (fun k_ j_ h_ => by rw [eσ59, dk_up_n (show ¬ (k_ = 141 ∧ j_ = 30) from fun q_ => h_ (Or.inl (q_))), eσ51, dk_up_n (show ¬ (k_ = 141 ∧ j_ = 31) from fun q_ => h_ (Or.inr (q_))), hF31 k_ j_ (fun w_ => h_ (w_.elim (fun x0_ => Or.inl (x0_)) (fun y0_ => Or.inr (y0_))))]) (by omega) (by omega)
            · skip
              refine dk_iconst (pc' := 98) hE dX11_go_97 (by decide) rfl ?_
              refine dk_goto (tgt := 112) hE dX11_go_98 (by decide) ?_
              refine dk_iaddW (pc' := 113) hE dX11_go_112 rfl (fun v61 hv61 _ => ?_)
              refine pf_11_30 (pc' := 116) hE fl_X11_349 dX11_go_113 is_141 trivial rfl (fun σ62 eσ62 => ?_)
              obtain ⟨v63, hv63⟩ : ∃ z : Int, z = i + 1 := ⟨_, rfl⟩
              refine dk_iinc (pc' := 119) (ls' := [(4, 141), (0, p), (0, c), (0, r), (0, v63), (0, v18)]) hE dX11_go_116 rfl hv63.symm (by omega) rfl (by decide) rfl ?_
              refine dk_goto (tgt := 31) hE dX11_go_119 (by decide) ?_
              refine dk_drop (ls' := [(4, 141), (0, p), (0, c), (0, r), (0, v63), (9, 0)]) [true, true, true, true, true, false] rfl ?_
              exact ih31 v63 σ62 (by omega) (fun k_ j_ h_ => by rw [eσ62, dk_up_n (show ¬ (k_ = 141 ∧ j_ = 30) from fun q_ => h_ (Or.inl (q_))), eσ51, dk_up_n (show ¬ (k_ = 141 ∧ j_ = 31) from fun q_ => h_ (Or.inr (q_))), hF31 k_ j_ (fun w_ => h_ (w_.elim (fun x0_ => Or.inl (x0_)) (fun y0_ => Or.inr (y0_))))]) (by omega) (by omega)
  exact lp31 _ 1 σ10 (Nat.lt_succ_self _) (fun k_ j_ h_ => rfl) (by omega) (by omega)
set_option maxHeartbeats 4000000 in
set_option maxRecDepth 20000 in
theorem ct_X11_where (l : Launch) (G : dkG) (hGd : dk_Gd G) (p c r : Int) : dk_Ct l G dk_Ty yX11_where cX11_where 4 (some .int) 4 190 190 (fun av σ => av = [(4, 141), (0, p), (0, c), (0, r)]) (fun _ σ r_ σ' => ∃ z : Int, r_ = some (0, z) ∧ (∀ k_ j_ : Int, ¬ ((k_ = 141 ∧ j_ = 30) ∨ (k_ = 141 ∧ j_ = 31)) → σ' k_ j_ = σ k_ j_) ∧ (True)) := by
  refine dk_enter hGd (by decide) (fun av σ hpre hok => ?_)
  subst hpre
  refine ⟨Nat.le_of_ble_eq_true rfl, fun E hE hR _ => ?_⟩
  have hi_p : dk_i32 p := dk_oki (hok _ (by simp))
  have hi_c : dk_i32 c := dk_oki (hok _ (by simp))
  have hi_r : dk_i32 r := dk_oki (hok _ (by simp))
  show dk_PJ E 0 [(4, 141), (0, p), (0, c), (0, r)] [] 190 σ
  refine dk_aload_n (pc' := 1) hE dX11_where_0 rfl rfl rfl ?_
  refine dk_iload_n (pc' := 2) hE dX11_where_1 rfl rfl rfl ?_
  refine dk_cV (pc' := 5) (as := [(0, p)]) hE lk_X11_333 (ct_X11_isPart l G hGd p) dX11_where_2 rfl is_141 rfl (by decide) (Nat.le_of_ble_eq_true rfl) rfl rfl (fun r2 σ1 hr2 hor2 => ?_)
  obtain ⟨v3, rfl, hfσ1, hpr2⟩ := hr2
  have hsσ1 : σ = σ1 := (funext (fun k => funext (fun j => hfσ1 k j not_false))).symm
  subst hsσ1
  rcases hpr2 with ⟨rfl, hpr2⟩ | rfl
  · skip
    refine dk_if_eq (tgt := 25) (pc' := 8) hE dX11_where_5 (by decide) rfl (fun hc4 => absurd hc4 (by decide)) (fun hc4 => ?_)
    refine dk_iload_n (pc' := 9) hE dX11_where_8 rfl rfl rfl ?_
    refine dk_cS (pc' := 12) (as := [(0, r)]) hE lk_X11_342 (ct_X11_isReader l G hGd r) dX11_where_9 rfl rfl (by decide) (Nat.le_of_ble_eq_true rfl) rfl rfl (fun r6 σ5 hr6 hor6 => ?_)
    obtain ⟨v7, rfl, hfσ5, hpr6⟩ := hr6
    have hsσ5 : σ = σ5 := (funext (fun k => funext (fun j => hfσ5 k j not_false))).symm
    subst hsσ5
    rcases hpr6 with ⟨rfl, hpr6⟩ | ⟨rfl, hpr6⟩
    · skip
      refine dk_if_eq (tgt := 25) (pc' := 15) hE dX11_where_12 (by decide) rfl (fun hc8 => absurd hc8 (by decide)) (fun hc8 => ?_)
      refine dk_iload_n (pc' := 16) hE dX11_where_15 rfl rfl rfl ?_
      refine dk_iconst (pc' := 17) hE dX11_where_16 (by decide) rfl ?_
      refine dk_bipush (pc' := 19) hE dX11_where_17 (by decide) rfl ?_
      refine dk_cS (pc' := 22) (as := [(0, c), (0, 0), (0, 32)]) hE lk_X11_323 (ct_X11_isIn l G hGd c 0 32) dX11_where_19 rfl rfl (by decide) (Nat.le_of_ble_eq_true rfl) rfl rfl (fun r10 σ9 hr10 hor10 => ?_)
      obtain ⟨v11, rfl, hfσ9, hpr10⟩ := hr10
      have hsσ9 : σ = σ9 := (funext (fun k => funext (fun j => hfσ9 k j not_false))).symm
      subst hsσ9
      rcases hpr10 with ⟨rfl, hpr10⟩ | ⟨rfl, hpr10⟩
      · skip
        refine dk_if_ne (tgt := 27) (pc' := 25) hE dX11_where_22 (by decide) rfl (fun hc12 => ?_) (fun hc12 => absurd hc12 (by decide))
        refine dk_aload_n (pc' := 28) hE dX11_where_27 rfl rfl rfl ?_
        refine dk_iload_n (pc' := 29) hE dX11_where_28 rfl rfl rfl ?_
        refine dk_iload_n (pc' := 30) hE dX11_where_29 rfl rfl rfl ?_
        refine dk_iload_n (pc' := 31) hE dX11_where_30 rfl rfl rfl ?_
        refine dk_cV (pc' := 34) (as := [(0, p), (0, c), (0, r)]) hE lk_X11_355 (ct_X11_go l G hGd p c r) dX11_where_31 rfl is_141 rfl (by decide) (Nat.le_of_ble_eq_true rfl) ⟨rfl, (by omega), (by omega)⟩ rfl (fun r14 σ13 hr14 hor14 => ?_)
        obtain ⟨rfl, hfσ13, hpr14⟩ := hr14
        refine dk_sipush (pc' := 37) hE dX11_where_34 (by decide) rfl ?_
        refine dk_aload_n (pc' := 38) hE dX11_where_37 rfl rfl rfl ?_
        refine gf_11_30 (pc' := 41) hE fl_X11_349 dX11_where_38 is_141 rfl (fun v15 hv15 htv15 hbv15 => ?_)
        refine dk_bipush (pc' := 43) hE dX11_where_41 (by decide) rfl ?_
        refine dk_iaddW (pc' := 44) hE dX11_where_43 rfl (fun v16 hv16 _ => ?_)
        refine dk_imulW (pc' := 45) hE dX11_where_44 rfl (fun v17 hv17 _ => ?_)
        refine dk_aload_n (pc' := 46) hE dX11_where_45 rfl rfl rfl ?_
        refine gf_11_31 (pc' := 49) hE fl_X11_352 dX11_where_46 is_141 rfl (fun v18 hv18 htv18 hbv18 => ?_)
        refine dk_iaddW (pc' := 50) hE dX11_where_49 rfl (fun v19 hv19 _ => ?_)
        refine dk_bipush (pc' := 52) hE dX11_where_50 (by decide) rfl ?_
        refine dk_iaddW (pc' := 53) hE dX11_where_52 rfl (fun v20 hv20 _ => ?_)
        exact dk_iret (st := []) hE hR dX11_where_53 ⟨_, rfl, (fun k_ j_ h_ => by rw [hfσ13 k_ j_ (fun w_ => h_ (w_.elim (fun x0_ => Or.inl (x0_)) (fun y0_ => Or.inr (y0_))))]), trivial⟩
      · skip
        refine dk_if_ne (tgt := 27) (pc' := 25) hE dX11_where_22 (by decide) rfl (fun hc21 => absurd hc21 (by decide)) (fun hc21 => ?_)
        refine dk_iconst (pc' := 26) hE dX11_where_25 (by decide) rfl ?_
        exact dk_iret (st := []) hE hR dX11_where_26 ⟨_, rfl, (fun k_ j_ h_ => rfl), trivial⟩
    · skip
      refine dk_if_eq (tgt := 25) (pc' := 15) hE dX11_where_12 (by decide) rfl (fun hc22 => ?_) (fun hc22 => absurd hc22 (by decide))
      refine dk_iconst (pc' := 26) hE dX11_where_25 (by decide) rfl ?_
      exact dk_iret (st := []) hE hR dX11_where_26 ⟨_, rfl, (fun k_ j_ h_ => rfl), trivial⟩
  · skip
    refine dk_if_eq (tgt := 25) (pc' := 8) hE dX11_where_5 (by decide) rfl (fun hc23 => ?_) (fun hc23 => absurd hc23 (by decide))
    refine dk_iconst (pc' := 26) hE dX11_where_25 (by decide) rfl ?_
    exact dk_iret (st := []) hE hR dX11_where_26 ⟨_, rfl, (fun k_ j_ h_ => rfl), trivial⟩
set_option maxHeartbeats 4000000 in
set_option maxRecDepth 20000 in
theorem ct_X11_meet (l : Launch) (G : dkG) (hGd : dk_Gd G) (w r : Int) : dk_Ct l G dk_Ty yX11_meet cX11_meet 8 (some .int) 4 190 190 (fun av σ => av = [(4, 141), (0, w), (0, r)]) (fun _ σ r_ σ' => ∃ z : Int, r_ = some (0, z) ∧ (∀ k_ j_ : Int, ¬ ((k_ = 141 ∧ j_ = 30) ∨ (k_ = 141 ∧ j_ = 31)) → σ' k_ j_ = σ k_ j_) ∧ (True)) := by
  refine dk_enter hGd (by decide) (fun av σ hpre hok => ?_)
  subst hpre
  refine ⟨Nat.le_of_ble_eq_true rfl, fun E hE hR _ => ?_⟩
  have hi_w : dk_i32 w := dk_oki (hok _ (by simp))
  have hi_r : dk_i32 r := dk_oki (hok _ (by simp))
  show dk_PJ E 0 [(4, 141), (0, w), (0, r), (9, 0), (9, 0), (9, 0), (9, 0), (9, 0)] [] 190 σ
  refine dk_aload_n (pc' := 1) hE dX11_meet_0 rfl rfl rfl ?_
  refine dk_iload_n (pc' := 2) hE dX11_meet_1 rfl rfl rfl ?_
  refine dk_cV (pc' := 5) (as := [(0, w)]) hE lk_X11_359 (ct_X11_isWork l G hGd w) dX11_meet_2 rfl is_141 rfl (by decide) (Nat.le_of_ble_eq_true rfl) rfl rfl (fun r2 σ1 hr2 hor2 => ?_)
  obtain ⟨v3, rfl, hfσ1, hpr2⟩ := hr2
  have hsσ1 : σ = σ1 := (funext (fun k => funext (fun j => hfσ1 k j not_false))).symm
  subst hsσ1
  rcases hpr2 with ⟨rfl, hpr2⟩ | rfl
  · skip
    refine dk_if_eq (tgt := 15) (pc' := 8) hE dX11_meet_5 (by decide) rfl (fun hc4 => absurd hc4 (by decide)) (fun hc4 => ?_)
    refine dk_iload_n (pc' := 9) hE dX11_meet_8 rfl rfl rfl ?_
    refine dk_cS (pc' := 12) (as := [(0, r)]) hE lk_X11_342 (ct_X11_isReader l G hGd r) dX11_meet_9 rfl rfl (by decide) (Nat.le_of_ble_eq_true rfl) rfl rfl (fun r6 σ5 hr6 hor6 => ?_)
    obtain ⟨v7, rfl, hfσ5, hpr6⟩ := hr6
    have hsσ5 : σ = σ5 := (funext (fun k => funext (fun j => hfσ5 k j not_false))).symm
    subst hsσ5
    rcases hpr6 with ⟨rfl, hpr6⟩ | ⟨rfl, hpr6⟩
    · skip
      refine dk_if_ne (tgt := 17) (pc' := 15) hE dX11_meet_12 (by decide) rfl (fun hc8 => ?_) (fun hc8 => absurd hc8 (by decide))
      refine dk_iconst (pc' := 18) hE dX11_meet_17 (by decide) rfl ?_
      refine dk_istore_n (pc' := 19) (ls' := [(4, 141), (0, w), (0, r), (0, 0), (9, 0), (9, 0), (9, 0), (9, 0)]) hE dX11_meet_18 rfl rfl (by decide) rfl ?_
      have lp19 : ∀ (N_ : Nat) (c : Int) (σ19c : dkS), (2147483648 - c).toNat < N_ → ((∀ k_ j_ : Int, ¬ ((k_ = 141 ∧ j_ = 30) ∨ (k_ = 141 ∧ j_ = 31)) → σ19c k_ j_ = σ k_ j_)) → (0 ≤ c) → dk_PJ E 19 [(4, 141), (0, w), (0, r), (0, c), (9, 0), (9, 0), (9, 0), (9, 0)] [] 190 σ19c := by
        intro N19
        induction N19 with
        | zero => intro c σ19c hm; exact absurd hm (Nat.not_lt_zero _)
        | succ N19 ih19 =>
          intro c σ19c hm19 hF19 hc0
          refine dk_iload_n (pc' := 20) hE dX11_meet_19 rfl rfl rfl ?_
          refine dk_bipush (pc' := 22) hE dX11_meet_20 (by decide) rfl ?_
          refine dk_icmp_gt (tgt := 136) (pc' := 25) hE dX11_meet_22 (by decide) rfl (fun hc9 => ?_) (fun hc9 => ?_)
          · skip
            refine dk_iconst (pc' := 137) hE dX11_meet_136 (by decide) rfl ?_
            exact dk_iret (st := []) hE hR dX11_meet_137 ⟨_, rfl, (fun k_ j_ h_ => by rw [hF19 k_ j_ (fun w_ => h_ (w_.elim (fun x0_ => Or.inl (x0_)) (fun y0_ => Or.inr (y0_))))]), trivial⟩
          · skip
            refine dk_iconst (pc' := 26) hE dX11_meet_25 (by decide) rfl ?_
            refine dk_istore (pc' := 28) (ls' := [(4, 141), (0, w), (0, r), (0, c), (0, 0), (9, 0), (9, 0), (9, 0)]) hE dX11_meet_26 rfl (by decide) rfl ?_
            have lp28 : ∀ (N_ : Nat) (a : Int) (σ28c : dkS), (2147483648 - a).toNat < N_ → ((∀ k_ j_ : Int, ¬ ((k_ = 141 ∧ j_ = 30) ∨ (k_ = 141 ∧ j_ = 31)) → σ28c k_ j_ = σ19c k_ j_)) → (0 ≤ a) → dk_PJ E 28 [(4, 141), (0, w), (0, r), (0, c), (0, a), (9, 0), (9, 0), (9, 0)] [] 190 σ28c := by
              intro N28
              induction N28 with
              | zero => intro a σ28c hm; exact absurd hm (Nat.not_lt_zero _)
              | succ N28 ih28 =>
                intro a σ28c hm28 hF28 ha0
                refine dk_iload (pc' := 30) hE dX11_meet_28 rfl rfl ?_
                refine dk_aload_n (pc' := 31) hE dX11_meet_30 rfl rfl rfl ?_
                refine dk_cV (pc' := 34) (as := []) hE lk_X11_319 (ct_X11_parts l G hGd) dX11_meet_31 rfl is_141 rfl (by decide) (Nat.le_of_ble_eq_true rfl) rfl rfl (fun r11 σ10 hr11 hor11 => ?_)
                obtain ⟨v12, rfl, hfσ10, hpr11⟩ := hr11
                have hsσ10 : σ28c = σ10 := (funext (fun k => funext (fun j => hfσ10 k j not_false))).symm
                subst hsσ10
                refine dk_icmp_ge (tgt := 130) (pc' := 37) hE dX11_meet_34 (by decide) rfl (fun hc13 => ?_) (fun hc13 => ?_)
                · skip
                  obtain ⟨v14, hv14⟩ : ∃ z : Int, z = c + 1 := ⟨_, rfl⟩
                  refine dk_iinc (pc' := 133) (ls' := [(4, 141), (0, w), (0, r), (0, v14), (0, a), (9, 0), (9, 0), (9, 0)]) hE dX11_meet_130 rfl hv14.symm (by omega) rfl (by decide) rfl ?_
                  refine dk_goto (tgt := 19) hE dX11_meet_133 (by decide) ?_
                  refine dk_drop (ls' := [(4, 141), (0, w), (0, r), (0, v14), (9, 0), (9, 0), (9, 0), (9, 0)]) [true, true, true, true, false, false, false, false] rfl ?_
                  exact ih19 v14 σ28c (by omega) (fun k_ j_ h_ => by rw [hF28 k_ j_ (fun w_ => h_ (w_.elim (fun x0_ => Or.inl (x0_)) (fun y0_ => Or.inr (y0_)))), hF19 k_ j_ (fun w_ => h_ (w_.elim (fun x0_ => Or.inl (x0_)) (fun y0_ => Or.inr (y0_))))]) (by omega)
                · skip
                  refine dk_iconst (pc' := 38) hE dX11_meet_37 (by decide) rfl ?_
                  refine dk_istore (pc' := 40) (ls' := [(4, 141), (0, w), (0, r), (0, c), (0, a), (0, 0), (9, 0), (9, 0)]) hE dX11_meet_38 rfl (by decide) rfl ?_
                  have lp40 : ∀ (N_ : Nat) (b : Int) (σ40c : dkS), (2147483648 - b).toNat < N_ → ((∀ k_ j_ : Int, ¬ ((k_ = 141 ∧ j_ = 30) ∨ (k_ = 141 ∧ j_ = 31)) → σ40c k_ j_ = σ28c k_ j_)) → (0 ≤ b) → dk_PJ E 40 [(4, 141), (0, w), (0, r), (0, c), (0, a), (0, b), (9, 0), (9, 0)] [] 190 σ40c := by
                    intro N40
                    induction N40 with
                    | zero => intro b σ40c hm; exact absurd hm (Nat.not_lt_zero _)
                    | succ N40 ih40 =>
                      intro b σ40c hm40 hF40 hb0
                      refine dk_iload (pc' := 42) hE dX11_meet_40 rfl rfl ?_
                      refine dk_iload (pc' := 44) hE dX11_meet_42 rfl rfl ?_
                      refine dk_icmp_ge (tgt := 124) (pc' := 47) hE dX11_meet_44 (by decide) rfl (fun hc15 => ?_) (fun hc15 => ?_)
                      · skip
                        obtain ⟨v16, hv16⟩ : ∃ z : Int, z = a + 1 := ⟨_, rfl⟩
                        refine dk_iinc (pc' := 127) (ls' := [(4, 141), (0, w), (0, r), (0, c), (0, v16), (0, b), (9, 0), (9, 0)]) hE dX11_meet_124 rfl hv16.symm (by omega) rfl (by decide) rfl ?_
                        refine dk_goto (tgt := 28) hE dX11_meet_127 (by decide) ?_
                        refine dk_drop (ls' := [(4, 141), (0, w), (0, r), (0, c), (0, v16), (9, 0), (9, 0), (9, 0)]) [true, true, true, true, true, false, false, false] rfl ?_
                        exact ih28 v16 σ40c (by omega) (fun k_ j_ h_ => by rw [hF40 k_ j_ (fun w_ => h_ (w_.elim (fun x0_ => Or.inl (x0_)) (fun y0_ => Or.inr (y0_)))), hF28 k_ j_ (fun w_ => h_ (w_.elim (fun x0_ => Or.inl (x0_)) (fun y0_ => Or.inr (y0_))))]) (by omega)
                      · skip
                        refine dk_aload_n (pc' := 48) hE dX11_meet_47 rfl rfl rfl ?_
                        refine dk_iload (pc' := 50) hE dX11_meet_48 rfl rfl ?_
                        refine dk_cV (pc' := 53) (as := [(0, a)]) hE lk_X11_336 (ct_X11_workOf l G hGd a) dX11_meet_50 rfl is_141 rfl (by decide) (Nat.le_of_ble_eq_true rfl) ⟨rfl, (by omega)⟩ rfl (fun r18 σ17 hr18 hor18 => ?_)
                        obtain ⟨v19, rfl, hfσ17, hpr18⟩ := hr18
                        have hsσ17 : σ40c = σ17 := (funext (fun k => funext (fun j => hfσ17 k j not_false))).symm
                        subst hsσ17
                        refine dk_iload_n (pc' := 54) hE dX11_meet_53 rfl rfl rfl ?_
                        refine dk_icmp_ne (tgt := 118) (pc' := 57) hE dX11_meet_54 (by decide) rfl (fun hc20 => ?_) (fun hc20 => ?_)
                        · skip
                          obtain ⟨v21, hv21⟩ : ∃ z : Int, z = b + 1 := ⟨_, rfl⟩
                          refine dk_iinc (pc' := 121) (ls' := [(4, 141), (0, w), (0, r), (0, c), (0, a), (0, v21), (9, 0), (9, 0)]) hE dX11_meet_118 rfl hv21.symm (by omega) rfl (by decide) rfl ?_
                          refine dk_goto (tgt := 40) hE dX11_meet_121 (by decide) ?_
                          exact ih40 v21 σ40c (by omega) (fun k_ j_ h_ => by rw [hF40 k_ j_ (fun w_ => h_ (w_.elim (fun x0_ => Or.inl (x0_)) (fun y0_ => Or.inr (y0_))))]) (by omega)
                        · skip
                          refine dk_aload_n (pc' := 58) hE dX11_meet_57 rfl rfl rfl ?_
                          refine dk_iload (pc' := 60) hE dX11_meet_58 rfl rfl ?_
                          refine dk_cV (pc' := 63) (as := [(0, b)]) hE lk_X11_336 (ct_X11_workOf l G hGd b) dX11_meet_60 rfl is_141 rfl (by decide) (Nat.le_of_ble_eq_true rfl) ⟨rfl, (by omega)⟩ rfl (fun r23 σ22 hr23 hor23 => ?_)
                          obtain ⟨v24, rfl, hfσ22, hpr23⟩ := hr23
                          have hsσ22 : σ40c = σ22 := (funext (fun k => funext (fun j => hfσ22 k j not_false))).symm
                          subst hsσ22
                          refine dk_iload_n (pc' := 64) hE dX11_meet_63 rfl rfl rfl ?_
                          refine dk_icmp_eq (tgt := 70) (pc' := 67) hE dX11_meet_64 (by decide) rfl (fun hc25 => ?_) (fun hc25 => ?_)
                          · skip
                            refine dk_aload_n (pc' := 71) hE dX11_meet_70 rfl rfl rfl ?_
                            refine dk_iload (pc' := 73) hE dX11_meet_71 rfl rfl ?_
                            refine dk_iload_n (pc' := 74) hE dX11_meet_73 rfl rfl rfl ?_
                            refine dk_iload_n (pc' := 75) hE dX11_meet_74 rfl rfl rfl ?_
                            refine dk_cV (pc' := 78) (as := [(0, a), (0, c), (0, r)]) hE lk_X11_355 (ct_X11_go l G hGd a c r) dX11_meet_75 rfl is_141 rfl (by decide) (Nat.le_of_ble_eq_true rfl) ⟨rfl, (by omega), (by omega)⟩ rfl (fun r27 σ26 hr27 hor27 => ?_)
                            obtain ⟨rfl, hfσ26, hpr27⟩ := hr27
                            refine dk_aload_n (pc' := 79) hE dX11_meet_78 rfl rfl rfl ?_
                            refine gf_11_30 (pc' := 82) hE fl_X11_349 dX11_meet_79 is_141 rfl (fun v28 hv28 htv28 hbv28 => ?_)
                            refine dk_istore (pc' := 84) (ls' := [(4, 141), (0, w), (0, r), (0, c), (0, a), (0, b), (0, v28), (9, 0)]) hE dX11_meet_82 rfl (by decide) rfl ?_
                            refine dk_aload_n (pc' := 85) hE dX11_meet_84 rfl rfl rfl ?_
                            refine gf_11_31 (pc' := 88) hE fl_X11_352 dX11_meet_85 is_141 rfl (fun v29 hv29 htv29 hbv29 => ?_)
                            refine dk_istore (pc' := 90) (ls' := [(4, 141), (0, w), (0, r), (0, c), (0, a), (0, b), (0, v28), (0, v29)]) hE dX11_meet_88 rfl (by decide) rfl ?_
                            refine dk_aload_n (pc' := 91) hE dX11_meet_90 rfl rfl rfl ?_
                            refine dk_iload (pc' := 93) hE dX11_meet_91 rfl rfl ?_
                            refine dk_iload_n (pc' := 94) hE dX11_meet_93 rfl rfl rfl ?_
                            refine dk_iload_n (pc' := 95) hE dX11_meet_94 rfl rfl rfl ?_
                            refine dk_cV (pc' := 98) (as := [(0, b), (0, c), (0, r)]) hE lk_X11_355 (ct_X11_go l G hGd b c r) dX11_meet_95 rfl is_141 rfl (by decide) (Nat.le_of_ble_eq_true rfl) ⟨rfl, (by omega), (by omega)⟩ rfl (fun r31 σ30 hr31 hor31 => ?_)
                            obtain ⟨rfl, hfσ30, hpr31⟩ := hr31
                            refine dk_iload (pc' := 100) hE dX11_meet_98 rfl rfl ?_
                            refine dk_aload_n (pc' := 101) hE dX11_meet_100 rfl rfl rfl ?_
                            refine gf_11_30 (pc' := 104) hE fl_X11_349 dX11_meet_101 is_141 rfl (fun v32 hv32 htv32 hbv32 => ?_)
                            refine dk_icmp_ne (tgt := 118) (pc' := 107) hE dX11_meet_104 (by decide) rfl (fun hc33 => ?_) (fun hc33 => ?_)
                            · skip
                              obtain ⟨v34, hv34⟩ : ∃ z : Int, z = b + 1 := ⟨_, rfl⟩
                              refine dk_iinc (pc' := 121) (ls' := [(4, 141), (0, w), (0, r), (0, c), (0, a), (0, v34), (0, v28), (0, v29)]) hE dX11_meet_118 rfl hv34.symm (by omega) rfl (by decide) rfl ?_
                              refine dk_goto (tgt := 40) hE dX11_meet_121 (by decide) ?_
                              refine dk_drop (ls' := [(4, 141), (0, w), (0, r), (0, c), (0, a), (0, v34), (9, 0), (9, 0)]) [true, true, true, true, true, true, false, false] rfl ?_
                              exact ih40 v34 σ30 (by omega) (fun k_ j_ h_ => by rw [hfσ30 k_ j_ (fun w_ => h_ (w_.elim (fun x0_ => Or.inl (x0_)) (fun y0_ => Or.inr (y0_)))), hfσ26 k_ j_ (fun w_ => h_ (w_.elim (fun x0_ => Or.inl (x0_)) (fun y0_ => Or.inr (y0_)))), hF40 k_ j_ (fun w_ => h_ (w_.elim (fun x0_ => Or.inl (x0_)) (fun y0_ => Or.inr (y0_))))]) (by omega)
                            · skip
                              refine dk_iload (pc' := 109) hE dX11_meet_107 rfl rfl ?_
                              refine dk_aload_n (pc' := 110) hE dX11_meet_109 rfl rfl rfl ?_
                              refine gf_11_31 (pc' := 113) hE fl_X11_352 dX11_meet_110 is_141 rfl (fun v35 hv35 htv35 hbv35 => ?_)
                              refine dk_icmp_ne (tgt := 118) (pc' := 116) hE dX11_meet_113 (by decide) rfl (fun hc36 => ?_) (fun hc36 => ?_)
                              · skip
                                obtain ⟨v37, hv37⟩ : ∃ z : Int, z = b + 1 := ⟨_, rfl⟩
                                refine dk_iinc (pc' := 121) (ls' := [(4, 141), (0, w), (0, r), (0, c), (0, a), (0, v37), (0, v28), (0, v29)]) hE dX11_meet_118 rfl hv37.symm (by omega) rfl (by decide) rfl ?_
                                refine dk_goto (tgt := 40) hE dX11_meet_121 (by decide) ?_
                                refine dk_drop (ls' := [(4, 141), (0, w), (0, r), (0, c), (0, a), (0, v37), (9, 0), (9, 0)]) [true, true, true, true, true, true, false, false] rfl ?_
                                exact ih40 v37 σ30 (by omega) (fun k_ j_ h_ => by rw [hfσ30 k_ j_ (fun w_ => h_ (w_.elim (fun x0_ => Or.inl (x0_)) (fun y0_ => Or.inr (y0_)))), hfσ26 k_ j_ (fun w_ => h_ (w_.elim (fun x0_ => Or.inl (x0_)) (fun y0_ => Or.inr (y0_)))), hF40 k_ j_ (fun w_ => h_ (w_.elim (fun x0_ => Or.inl (x0_)) (fun y0_ => Or.inr (y0_))))]) (by omega)
                              · skip
                                refine dk_iload_n (pc' := 117) hE dX11_meet_116 rfl rfl rfl ?_
                                exact dk_iret (st := []) hE hR dX11_meet_117 ⟨_, rfl, (fun k_ j_ h_ => by rw [hfσ30 k_ j_ (fun w_ => h_ (w_.elim (fun x0_ => Or.inl (x0_)) (fun y0_ => Or.inr (y0_)))), hfσ26 k_ j_ (fun w_ => h_ (w_.elim (fun x0_ => Or.inl (x0_)) (fun y0_ => Or.inr (y0_)))), hF40 k_ j_ (fun w_ => h_ (w_.elim (fun x0_ => Or.inl (x0_)) (fun y0_ => Or.inr (y0_)))), hF28 k_ j_ (fun w_ => h_ (w_.elim (fun x0_ => Or.inl (x0_)) (fun y0_ => Or.inr (y0_)))), hF19 k_ j_ (fun w_ => h_ (w_.elim (fun x0_ => Or.inl (x0_)) (fun y0_ => Or.inr (y0_))))]), trivial⟩
                          · skip
                            refine dk_goto (tgt := 118) hE dX11_meet_67 (by decide) ?_
                            obtain ⟨v38, hv38⟩ : ∃ z : Int, z = b + 1 := ⟨_, rfl⟩
                            refine dk_iinc (pc' := 121) (ls' := [(4, 141), (0, w), (0, r), (0, c), (0, a), (0, v38), (9, 0), (9, 0)]) hE dX11_meet_118 rfl hv38.symm (by omega) rfl (by decide) rfl ?_
                            refine dk_goto (tgt := 40) hE dX11_meet_121 (by decide) ?_
                            exact ih40 v38 σ40c (by omega) (fun k_ j_ h_ => by rw [hF40 k_ j_ (fun w_ => h_ (w_.elim (fun x0_ => Or.inl (x0_)) (fun y0_ => Or.inr (y0_))))]) (by omega)
                  exact lp40 _ 0 σ28c (Nat.lt_succ_self _) (fun k_ j_ h_ => rfl) (by omega)
            exact lp28 _ 0 σ19c (Nat.lt_succ_self _) (fun k_ j_ h_ => rfl) (by omega)
      exact lp19 _ 0 σ (Nat.lt_succ_self _) (fun k_ j_ h_ => rfl) (by omega)
    · skip
      refine dk_if_ne (tgt := 17) (pc' := 15) hE dX11_meet_12 (by decide) rfl (fun hc39 => absurd hc39 (by decide)) (fun hc39 => ?_)
      refine dk_iconst (pc' := 16) hE dX11_meet_15 (by decide) rfl ?_
      exact dk_iret (st := []) hE hR dX11_meet_16 ⟨_, rfl, (fun k_ j_ h_ => rfl), trivial⟩
  · skip
    refine dk_if_eq (tgt := 15) (pc' := 8) hE dX11_meet_5 (by decide) rfl (fun hc40 => ?_) (fun hc40 => absurd hc40 (by decide))
    refine dk_iconst (pc' := 16) hE dX11_meet_15 (by decide) rfl ?_
    exact dk_iret (st := []) hE hR dX11_meet_16 ⟨_, rfl, (fun k_ j_ h_ => rfl), trivial⟩
set_option maxHeartbeats 4000000 in
set_option maxRecDepth 20000 in
theorem ct_X11_breaks (l : Launch) (G : dkG) (hGd : dk_Gd G) (w r a b : Int) : dk_Ct l G dk_Ty yX11_breaks cX11_breaks 7 (some .int) 4 190 190 (fun av σ => av = [(4, 141), (0, w), (0, r), (0, a), (0, b)]) (fun _ σ r_ σ' => ∃ z : Int, r_ = some (0, z) ∧ (∀ k_ j_ : Int, ¬ ((k_ = 141 ∧ j_ = 30) ∨ (k_ = 141 ∧ j_ = 31)) → σ' k_ j_ = σ k_ j_) ∧ (True)) := by
  refine dk_enter hGd (by decide) (fun av σ hpre hok => ?_)
  subst hpre
  refine ⟨Nat.le_of_ble_eq_true rfl, fun E hE hR _ => ?_⟩
  have hi_w : dk_i32 w := dk_oki (hok _ (by simp))
  have hi_r : dk_i32 r := dk_oki (hok _ (by simp))
  have hi_a : dk_i32 a := dk_oki (hok _ (by simp))
  have hi_b : dk_i32 b := dk_oki (hok _ (by simp))
  show dk_PJ E 0 [(4, 141), (0, w), (0, r), (0, a), (0, b), (9, 0), (9, 0)] [] 190 σ
  refine dk_aload_n (pc' := 1) hE dX11_breaks_0 rfl rfl rfl ?_
  refine dk_iload_n (pc' := 2) hE dX11_breaks_1 rfl rfl rfl ?_
  refine dk_cV (pc' := 5) (as := [(0, w)]) hE lk_X11_359 (ct_X11_isWork l G hGd w) dX11_breaks_2 rfl is_141 rfl (by decide) (Nat.le_of_ble_eq_true rfl) rfl rfl (fun r2 σ1 hr2 hor2 => ?_)
  obtain ⟨v3, rfl, hfσ1, hpr2⟩ := hr2
  have hsσ1 : σ = σ1 := (funext (fun k => funext (fun j => hfσ1 k j not_false))).symm
  subst hsσ1
  rcases hpr2 with ⟨rfl, hpr2⟩ | rfl
  · skip
    refine dk_if_eq (tgt := 36) (pc' := 8) hE dX11_breaks_5 (by decide) rfl (fun hc4 => absurd hc4 (by decide)) (fun hc4 => ?_)
    refine dk_iload_n (pc' := 9) hE dX11_breaks_8 rfl rfl rfl ?_
    refine dk_cS (pc' := 12) (as := [(0, r)]) hE lk_X11_342 (ct_X11_isReader l G hGd r) dX11_breaks_9 rfl rfl (by decide) (Nat.le_of_ble_eq_true rfl) rfl rfl (fun r6 σ5 hr6 hor6 => ?_)
    obtain ⟨v7, rfl, hfσ5, hpr6⟩ := hr6
    have hsσ5 : σ = σ5 := (funext (fun k => funext (fun j => hfσ5 k j not_false))).symm
    subst hsσ5
    rcases hpr6 with ⟨rfl, hpr6⟩ | ⟨rfl, hpr6⟩
    · skip
      refine dk_if_eq (tgt := 36) (pc' := 15) hE dX11_breaks_12 (by decide) rfl (fun hc8 => absurd hc8 (by decide)) (fun hc8 => ?_)
      refine dk_iload_n (pc' := 16) hE dX11_breaks_15 rfl rfl rfl ?_
      refine dk_iconst (pc' := 17) hE dX11_breaks_16 (by decide) rfl ?_
      refine dk_bipush (pc' := 19) hE dX11_breaks_17 (by decide) rfl ?_
      refine dk_cS (pc' := 22) (as := [(0, a), (0, 1), (0, 20)]) hE lk_X11_323 (ct_X11_isIn l G hGd a 1 20) dX11_breaks_19 rfl rfl (by decide) (Nat.le_of_ble_eq_true rfl) rfl rfl (fun r10 σ9 hr10 hor10 => ?_)
      obtain ⟨v11, rfl, hfσ9, hpr10⟩ := hr10
      have hsσ9 : σ = σ9 := (funext (fun k => funext (fun j => hfσ9 k j not_false))).symm
      subst hsσ9
      rcases hpr10 with ⟨rfl, hpr10⟩ | ⟨rfl, hpr10⟩
      · skip
        refine dk_if_eq (tgt := 36) (pc' := 25) hE dX11_breaks_22 (by decide) rfl (fun hc12 => absurd hc12 (by decide)) (fun hc12 => ?_)
        refine dk_iload (pc' := 27) hE dX11_breaks_25 rfl rfl ?_
        refine dk_iconst (pc' := 28) hE dX11_breaks_27 (by decide) rfl ?_
        refine dk_bipush (pc' := 30) hE dX11_breaks_28 (by decide) rfl ?_
        refine dk_cS (pc' := 33) (as := [(0, b), (0, 1), (0, 20)]) hE lk_X11_323 (ct_X11_isIn l G hGd b 1 20) dX11_breaks_30 rfl rfl (by decide) (Nat.le_of_ble_eq_true rfl) rfl rfl (fun r14 σ13 hr14 hor14 => ?_)
        obtain ⟨v15, rfl, hfσ13, hpr14⟩ := hr14
        have hsσ13 : σ = σ13 := (funext (fun k => funext (fun j => hfσ13 k j not_false))).symm
        subst hsσ13
        rcases hpr14 with ⟨rfl, hpr14⟩ | ⟨rfl, hpr14⟩
        · skip
          refine dk_if_ne (tgt := 38) (pc' := 36) hE dX11_breaks_33 (by decide) rfl (fun hc16 => ?_) (fun hc16 => absurd hc16 (by decide))
          refine dk_iconst (pc' := 39) hE dX11_breaks_38 (by decide) rfl ?_
          refine dk_istore (pc' := 41) (ls' := [(4, 141), (0, w), (0, r), (0, a), (0, b), (0, 0), (9, 0)]) hE dX11_breaks_39 rfl (by decide) rfl ?_
          have lp41 : ∀ (N_ : Nat) (c : Int) (σ41c : dkS), (2147483648 - c).toNat < N_ → ((∀ k_ j_ : Int, ¬ ((k_ = 141 ∧ j_ = 30) ∨ (k_ = 141 ∧ j_ = 31)) → σ41c k_ j_ = σ k_ j_)) → (0 ≤ c) → dk_PJ E 41 [(4, 141), (0, w), (0, r), (0, a), (0, b), (0, c), (9, 0)] [] 190 σ41c := by
            intro N41
            induction N41 with
            | zero => intro c σ41c hm; exact absurd hm (Nat.not_lt_zero _)
            | succ N41 ih41 =>
              intro c σ41c hm41 hF41 hc0
              refine dk_iload (pc' := 43) hE dX11_breaks_41 rfl rfl ?_
              refine dk_bipush (pc' := 45) hE dX11_breaks_43 (by decide) rfl ?_
              refine dk_icmp_gt (tgt := 126) (pc' := 48) hE dX11_breaks_45 (by decide) rfl (fun hc17 => ?_) (fun hc17 => ?_)
              · skip
                refine dk_iconst (pc' := 127) hE dX11_breaks_126 (by decide) rfl ?_
                exact dk_iret (st := []) hE hR dX11_breaks_127 ⟨_, rfl, (fun k_ j_ h_ => by rw [hF41 k_ j_ (fun w_ => h_ (w_.elim (fun x0_ => Or.inl (x0_)) (fun y0_ => Or.inr (y0_))))]), trivial⟩
              · skip
                refine dk_iconst (pc' := 49) hE dX11_breaks_48 (by decide) rfl ?_
                refine dk_istore (pc' := 51) (ls' := [(4, 141), (0, w), (0, r), (0, a), (0, b), (0, c), (0, 0)]) hE dX11_breaks_49 rfl (by decide) rfl ?_
                have lp51 : ∀ (N_ : Nat) (p : Int) (σ51c : dkS), (2147483648 - p).toNat < N_ → ((∀ k_ j_ : Int, ¬ ((k_ = 141 ∧ j_ = 30) ∨ (k_ = 141 ∧ j_ = 31)) → σ51c k_ j_ = σ41c k_ j_)) → (0 ≤ p) → dk_PJ E 51 [(4, 141), (0, w), (0, r), (0, a), (0, b), (0, c), (0, p)] [] 190 σ51c := by
                  intro N51
                  induction N51 with
                  | zero => intro p σ51c hm; exact absurd hm (Nat.not_lt_zero _)
                  | succ N51 ih51 =>
                    intro p σ51c hm51 hF51 hp0
                    refine dk_iload (pc' := 53) hE dX11_breaks_51 rfl rfl ?_
                    refine dk_aload_n (pc' := 54) hE dX11_breaks_53 rfl rfl rfl ?_
                    refine dk_cV (pc' := 57) (as := []) hE lk_X11_319 (ct_X11_parts l G hGd) dX11_breaks_54 rfl is_141 rfl (by decide) (Nat.le_of_ble_eq_true rfl) rfl rfl (fun r19 σ18 hr19 hor19 => ?_)
                    obtain ⟨v20, rfl, hfσ18, hpr19⟩ := hr19
                    have hsσ18 : σ51c = σ18 := (funext (fun k => funext (fun j => hfσ18 k j not_false))).symm
                    subst hsσ18
                    refine dk_icmp_ge (tgt := 120) (pc' := 60) hE dX11_breaks_57 (by decide) rfl (fun hc21 => ?_) (fun hc21 => ?_)
                    · skip
                      obtain ⟨v22, hv22⟩ : ∃ z : Int, z = c + 1 := ⟨_, rfl⟩
                      refine dk_iinc (pc' := 123) (ls' := [(4, 141), (0, w), (0, r), (0, a), (0, b), (0, v22), (0, p)]) hE dX11_breaks_120 rfl hv22.symm (by omega) rfl (by decide) rfl ?_
                      refine dk_goto (tgt := 41) hE dX11_breaks_123 (by decide) ?_
                      refine dk_drop (ls' := [(4, 141), (0, w), (0, r), (0, a), (0, b), (0, v22), (9, 0)]) [true, true, true, true, true, true, false] rfl ?_
                      exact ih41 v22 σ51c (by omega) (fun k_ j_ h_ => by rw [hF51 k_ j_ (fun w_ => h_ (w_.elim (fun x0_ => Or.inl (x0_)) (fun y0_ => Or.inr (y0_)))), hF41 k_ j_ (fun w_ => h_ (w_.elim (fun x0_ => Or.inl (x0_)) (fun y0_ => Or.inr (y0_))))]) (by omega)
                    · skip
                      refine dk_aload_n (pc' := 61) hE dX11_breaks_60 rfl rfl rfl ?_
                      refine dk_iload (pc' := 63) hE dX11_breaks_61 rfl rfl ?_
                      refine dk_cV (pc' := 66) (as := [(0, p)]) hE lk_X11_336 (ct_X11_workOf l G hGd p) dX11_breaks_63 rfl is_141 rfl (by decide) (Nat.le_of_ble_eq_true rfl) ⟨rfl, (by omega)⟩ rfl (fun r24 σ23 hr24 hor24 => ?_)
                      obtain ⟨v25, rfl, hfσ23, hpr24⟩ := hr24
                      have hsσ23 : σ51c = σ23 := (funext (fun k => funext (fun j => hfσ23 k j not_false))).symm
                      subst hsσ23
                      refine dk_iload_n (pc' := 67) hE dX11_breaks_66 rfl rfl rfl ?_
                      refine dk_icmp_eq (tgt := 73) (pc' := 70) hE dX11_breaks_67 (by decide) rfl (fun hc26 => ?_) (fun hc26 => ?_)
                      · skip
                        refine dk_aload_n (pc' := 74) hE dX11_breaks_73 rfl rfl rfl ?_
                        refine dk_iload (pc' := 76) hE dX11_breaks_74 rfl rfl ?_
                        refine dk_iload (pc' := 78) hE dX11_breaks_76 rfl rfl ?_
                        refine dk_iload_n (pc' := 79) hE dX11_breaks_78 rfl rfl rfl ?_
                        refine dk_cV (pc' := 82) (as := [(0, p), (0, c), (0, r)]) hE lk_X11_355 (ct_X11_go l G hGd p c r) dX11_breaks_79 rfl is_141 rfl (by decide) (Nat.le_of_ble_eq_true rfl) ⟨rfl, (by omega), (by omega)⟩ rfl (fun r28 σ27 hr28 hor28 => ?_)
                        obtain ⟨rfl, hfσ27, hpr28⟩ := hr28
                        refine dk_aload_n (pc' := 83) hE dX11_breaks_82 rfl rfl rfl ?_
                        refine gf_11_30 (pc' := 86) hE fl_X11_349 dX11_breaks_83 is_141 rfl (fun v29 hv29 htv29 hbv29 => ?_)
                        refine dk_iconst (pc' := 87) hE dX11_breaks_86 (by decide) rfl ?_
                        refine dk_iload_n (pc' := 88) hE dX11_breaks_87 rfl rfl rfl ?_
                        refine dk_iconst (pc' := 89) hE dX11_breaks_88 (by decide) rfl ?_
                        obtain ⟨v30, hv30⟩ : ∃ z : Int, z = a - 1 := ⟨_, rfl⟩
                        refine dk_isub (pc' := 90) hE dX11_breaks_89 hv30.symm (by omega) rfl ?_
                        refine dk_cS (pc' := 93) (as := [(0, v29), (0, 0), (0, v30)]) hE lk_X11_323 (ct_X11_isIn l G hGd v29 0 v30) dX11_breaks_90 rfl rfl (by decide) (Nat.le_of_ble_eq_true rfl) rfl rfl (fun r32 σ31 hr32 hor32 => ?_)
                        obtain ⟨v33, rfl, hfσ31, hpr32⟩ := hr32
                        have hsσ31 : σ27 = σ31 := (funext (fun k => funext (fun j => hfσ31 k j not_false))).symm
                        subst hsσ31
                        rcases hpr32 with ⟨rfl, hpr32⟩ | ⟨rfl, hpr32⟩
                        · skip
                          refine dk_if_eq (tgt := 111) (pc' := 96) hE dX11_breaks_93 (by decide) rfl (fun hc34 => absurd hc34 (by decide)) (fun hc34 => ?_)
                          refine dk_aload_n (pc' := 97) hE dX11_breaks_96 rfl rfl rfl ?_
                          refine gf_11_31 (pc' := 100) hE fl_X11_352 dX11_breaks_97 is_141 rfl (fun v35 hv35 htv35 hbv35 => ?_)
                          refine dk_iconst (pc' := 101) hE dX11_breaks_100 (by decide) rfl ?_
                          refine dk_iload (pc' := 103) hE dX11_breaks_101 rfl rfl ?_
                          refine dk_iconst (pc' := 104) hE dX11_breaks_103 (by decide) rfl ?_
                          obtain ⟨v36, hv36⟩ : ∃ z : Int, z = b - 1 := ⟨_, rfl⟩
                          refine dk_isub (pc' := 105) hE dX11_breaks_104 hv36.symm (by omega) rfl ?_
                          refine dk_cS (pc' := 108) (as := [(0, v35), (0, 0), (0, v36)]) hE lk_X11_323 (ct_X11_isIn l G hGd v35 0 v36) dX11_breaks_105 rfl rfl (by decide) (Nat.le_of_ble_eq_true rfl) rfl rfl (fun r38 σ37 hr38 hor38 => ?_)
                          obtain ⟨v39, rfl, hfσ37, hpr38⟩ := hr38
                          have hsσ37 : σ27 = σ37 := (funext (fun k => funext (fun j => hfσ37 k j not_false))).symm
                          subst hsσ37
                          rcases hpr38 with ⟨rfl, hpr38⟩ | ⟨rfl, hpr38⟩
                          · skip
                            refine dk_if_ne (tgt := 114) (pc' := 111) hE dX11_breaks_108 (by decide) rfl (fun hc40 => ?_) (fun hc40 => absurd hc40 (by decide))
                            obtain ⟨v41, hv41⟩ : ∃ z : Int, z = p + 1 := ⟨_, rfl⟩
                            refine dk_iinc (pc' := 117) (ls' := [(4, 141), (0, w), (0, r), (0, a), (0, b), (0, c), (0, v41)]) hE dX11_breaks_114 rfl hv41.symm (by omega) rfl (by decide) rfl ?_
                            refine dk_goto (tgt := 51) hE dX11_breaks_117 (by decide) ?_
                            exact ih51 v41 σ27 (by omega) (fun k_ j_ h_ => by rw [hfσ27 k_ j_ (fun w_ => h_ (w_.elim (fun x0_ => Or.inl (x0_)) (fun y0_ => Or.inr (y0_)))), hF51 k_ j_ (fun w_ => h_ (w_.elim (fun x0_ => Or.inl (x0_)) (fun y0_ => Or.inr (y0_))))]) (by omega)
                          · skip
                            refine dk_if_ne (tgt := 114) (pc' := 111) hE dX11_breaks_108 (by decide) rfl (fun hc42 => absurd hc42 (by decide)) (fun hc42 => ?_)
                            refine dk_iload (pc' := 113) hE dX11_breaks_111 rfl rfl ?_
                            exact dk_iret (st := []) hE hR dX11_breaks_113 ⟨_, rfl, (fun k_ j_ h_ => by rw [hfσ27 k_ j_ (fun w_ => h_ (w_.elim (fun x0_ => Or.inl (x0_)) (fun y0_ => Or.inr (y0_)))), hF51 k_ j_ (fun w_ => h_ (w_.elim (fun x0_ => Or.inl (x0_)) (fun y0_ => Or.inr (y0_)))), hF41 k_ j_ (fun w_ => h_ (w_.elim (fun x0_ => Or.inl (x0_)) (fun y0_ => Or.inr (y0_))))]), trivial⟩
                        · skip
                          refine dk_if_eq (tgt := 111) (pc' := 96) hE dX11_breaks_93 (by decide) rfl (fun hc43 => ?_) (fun hc43 => absurd hc43 (by decide))
                          refine dk_iload (pc' := 113) hE dX11_breaks_111 rfl rfl ?_
                          exact dk_iret (st := []) hE hR dX11_breaks_113 ⟨_, rfl, (fun k_ j_ h_ => by rw [hfσ27 k_ j_ (fun w_ => h_ (w_.elim (fun x0_ => Or.inl (x0_)) (fun y0_ => Or.inr (y0_)))), hF51 k_ j_ (fun w_ => h_ (w_.elim (fun x0_ => Or.inl (x0_)) (fun y0_ => Or.inr (y0_)))), hF41 k_ j_ (fun w_ => h_ (w_.elim (fun x0_ => Or.inl (x0_)) (fun y0_ => Or.inr (y0_))))]), trivial⟩
                      · skip
                        refine dk_goto (tgt := 114) hE dX11_breaks_70 (by decide) ?_
                        obtain ⟨v44, hv44⟩ : ∃ z : Int, z = p + 1 := ⟨_, rfl⟩
                        refine dk_iinc (pc' := 117) (ls' := [(4, 141), (0, w), (0, r), (0, a), (0, b), (0, c), (0, v44)]) hE dX11_breaks_114 rfl hv44.symm (by omega) rfl (by decide) rfl ?_
                        refine dk_goto (tgt := 51) hE dX11_breaks_117 (by decide) ?_
                        exact ih51 v44 σ51c (by omega) (fun k_ j_ h_ => by rw [hF51 k_ j_ (fun w_ => h_ (w_.elim (fun x0_ => Or.inl (x0_)) (fun y0_ => Or.inr (y0_))))]) (by omega)
                exact lp51 _ 0 σ41c (Nat.lt_succ_self _) (fun k_ j_ h_ => rfl) (by omega)
          exact lp41 _ 0 σ (Nat.lt_succ_self _) (fun k_ j_ h_ => rfl) (by omega)
        · skip
          refine dk_if_ne (tgt := 38) (pc' := 36) hE dX11_breaks_33 (by decide) rfl (fun hc45 => absurd hc45 (by decide)) (fun hc45 => ?_)
          refine dk_iconst (pc' := 37) hE dX11_breaks_36 (by decide) rfl ?_
          exact dk_iret (st := []) hE hR dX11_breaks_37 ⟨_, rfl, (fun k_ j_ h_ => rfl), trivial⟩
      · skip
        refine dk_if_eq (tgt := 36) (pc' := 25) hE dX11_breaks_22 (by decide) rfl (fun hc46 => ?_) (fun hc46 => absurd hc46 (by decide))
        refine dk_iconst (pc' := 37) hE dX11_breaks_36 (by decide) rfl ?_
        exact dk_iret (st := []) hE hR dX11_breaks_37 ⟨_, rfl, (fun k_ j_ h_ => rfl), trivial⟩
    · skip
      refine dk_if_eq (tgt := 36) (pc' := 15) hE dX11_breaks_12 (by decide) rfl (fun hc47 => ?_) (fun hc47 => absurd hc47 (by decide))
      refine dk_iconst (pc' := 37) hE dX11_breaks_36 (by decide) rfl ?_
      exact dk_iret (st := []) hE hR dX11_breaks_37 ⟨_, rfl, (fun k_ j_ h_ => rfl), trivial⟩
  · skip
    refine dk_if_eq (tgt := 36) (pc' := 8) hE dX11_breaks_5 (by decide) rfl (fun hc48 => ?_) (fun hc48 => absurd hc48 (by decide))
    refine dk_iconst (pc' := 37) hE dX11_breaks_36 (by decide) rfl ?_
    exact dk_iret (st := []) hE hR dX11_breaks_37 ⟨_, rfl, (fun k_ j_ h_ => rfl), trivial⟩
set_option maxHeartbeats 4000000 in
set_option maxRecDepth 20000 in
theorem ct_X11_loadOf (l : Launch) (G : dkG) (hGd : dk_Gd G) (p r : Int) : dk_Ct l G dk_Ty yX11_loadOf cX11_loadOf 6 (some .int) 3 190 190 (fun av σ => av = [(4, 141), (0, p), (0, r)] ∧ (0 ≤ p ∧ p < 12) ∧ (0 ≤ r ∧ r ≤ 1)) (fun _ σ r_ σ' => ∃ z : Int, r_ = some (0, z) ∧ (∀ k_ j_ : Int, ¬ (False) → σ' k_ j_ = σ k_ j_) ∧ (0 ≤ z ∧ z ≤ 500)) := by
  refine dk_enter hGd (by decide) (fun av σ hpre hok => ?_)
  obtain ⟨rfl, hp, hr⟩ := hpre
  refine ⟨Nat.le_of_ble_eq_true rfl, fun E hE hR _ => ?_⟩
  have hi_p : dk_i32 p := dk_oki (hok _ (by simp))
  have hi_r : dk_i32 r := dk_oki (hok _ (by simp))
  show dk_PJ E 0 [(4, 141), (0, p), (0, r), (9, 0), (9, 0), (9, 0)] [] 190 σ
  refine dk_aload_n (pc' := 1) hE dX11_loadOf_0 rfl rfl rfl ?_
  refine dk_iload_n (pc' := 2) hE dX11_loadOf_1 rfl rfl rfl ?_
  refine dk_cV (pc' := 5) (as := [(0, p)]) hE lk_X11_339 (ct_X11_countsOf l G hGd p) dX11_loadOf_2 rfl is_141 rfl (by decide) (Nat.le_of_ble_eq_true rfl) ⟨rfl, (by omega)⟩ rfl (fun r2 σ1 hr2 hor2 => ?_)
  obtain ⟨v3, rfl, hfσ1, hpr2⟩ := hr2
  have hsσ1 : σ = σ1 := (funext (fun k => funext (fun j => hfσ1 k j not_false))).symm
  subst hsσ1
  refine dk_aload_n (pc' := 6) hE dX11_loadOf_5 rfl rfl rfl ?_
  refine gf_11_17 (pc' := 9) (w := 150) hE fl_X11_39 dX11_loadOf_6 is_141 rfl rfl ?_
  refine dk_aload_n (pc' := 10) hE dX11_loadOf_9 rfl rfl rfl ?_
  refine gf_11_27 (pc' := 13) hE fl_X11_266 dX11_loadOf_10 is_141 rfl (fun v4 hv4 htv4 hbv4 => ?_)
  refine ga_78 (pc' := 14) hE dX11_loadOf_13 is_150 (by omega) rfl (fun v5 hv5 htv5 hbv5 => ?_)
  obtain ⟨v6, hv6⟩ : ∃ z : Int, z = v3 * v5 := ⟨_, rfl⟩
  have hmv6 := dk_mul_b (a := v3) (b := v5) (A := 32) (B := 9) (by omega) (by omega)
  refine dk_imul (pc' := 15) hE dX11_loadOf_14 hv6.symm (by omega) rfl ?_
  refine dk_iconst (pc' := 16) hE dX11_loadOf_15 (by decide) rfl ?_
  refine dk_idiv (pc' := 17) hE dX11_loadOf_16 (by omega) rfl (fun v7 hv7 ev7 => ?_)
  have hdv7 := dk_div4 (x := v6) (by omega) (by omega) ev7
  refine dk_istore_n (pc' := 18) (ls' := [(4, 141), (0, p), (0, r), (0, v7), (9, 0), (9, 0)]) hE dX11_loadOf_17 rfl rfl (by decide) rfl ?_
  refine dk_iconst (pc' := 19) hE dX11_loadOf_18 (by decide) rfl ?_
  refine dk_istore (pc' := 21) (ls' := [(4, 141), (0, p), (0, r), (0, v7), (0, 1), (9, 0)]) hE dX11_loadOf_19 rfl (by decide) rfl ?_
  have lp21 : ∀ (N_ : Nat) (x i : Int) (σ21c : dkS), (2147483648 - i).toNat < N_ → ((∀ k_ j_ : Int, ¬ (False) → σ21c k_ j_ = σ k_ j_)) → (1 ≤ i ∧ i ≤ 33) → (0 ≤ x ∧ x ≤ 300 + 3 * i) → dk_PJ E 21 [(4, 141), (0, p), (0, r), (0, x), (0, i), (9, 0)] [] 190 σ21c := by
    intro N21
    induction N21 with
    | zero => intro x i σ21c hm; exact absurd hm (Nat.not_lt_zero _)
    | succ N21 ih21 =>
      intro x i σ21c hm21 hF21 hi hx
      refine dk_iload (pc' := 23) hE dX11_loadOf_21 rfl rfl ?_
      refine dk_aload_n (pc' := 24) hE dX11_loadOf_23 rfl rfl rfl ?_
      refine dk_iload_n (pc' := 25) hE dX11_loadOf_24 rfl rfl rfl ?_
      refine dk_cV (pc' := 28) (as := [(0, p)]) hE lk_X11_339 (ct_X11_countsOf l G hGd p) dX11_loadOf_25 rfl is_141 rfl (by decide) (Nat.le_of_ble_eq_true rfl) ⟨rfl, (by omega)⟩ rfl (fun r9 σ8 hr9 hor9 => ?_)
      obtain ⟨v10, rfl, hfσ8, hpr9⟩ := hr9
      have hsσ8 : σ21c = σ8 := (funext (fun k => funext (fun j => hfσ8 k j not_false))).symm
      subst hsσ8
      refine dk_icmp_gt (tgt := 71) (pc' := 31) hE dX11_loadOf_28 (by decide) rfl (fun hc11 => ?_) (fun hc11 => ?_)
      · skip
        refine dk_iload_n (pc' := 72) hE dX11_loadOf_71 rfl rfl rfl ?_
        exact dk_iret (st := []) hE hR dX11_loadOf_72 ⟨_, rfl, (fun k_ j_ h_ => by rw [hF21 k_ j_ not_false]), by omega⟩
      · skip
        refine dk_aload_n (pc' := 32) hE dX11_loadOf_31 rfl rfl rfl ?_
        refine dk_iload_n (pc' := 33) hE dX11_loadOf_32 rfl rfl rfl ?_
        refine dk_iload (pc' := 35) hE dX11_loadOf_33 rfl rfl ?_
        refine dk_iload_n (pc' := 36) hE dX11_loadOf_35 rfl rfl rfl ?_
        refine dk_cV (pc' := 39) (as := [(0, p), (0, i), (0, r)]) hE lk_X11_345 (ct_X11_stepAt l G hGd p i r) dX11_loadOf_36 rfl is_141 rfl (by decide) (Nat.le_of_ble_eq_true rfl) ⟨rfl, (by omega), (by omega), (by omega)⟩ rfl (fun r13 σ12 hr13 hor13 => ?_)
        obtain ⟨v14, rfl, hfσ12, hpr13⟩ := hr13
        have hsσ12 : σ21c = σ12 := (funext (fun k => funext (fun j => hfσ12 k j not_false))).symm
        subst hsσ12
        refine dk_istore (pc' := 41) (ls' := [(4, 141), (0, p), (0, r), (0, x), (0, i), (0, v14)]) hE dX11_loadOf_39 rfl (by decide) rfl ?_
        refine dk_iload_n (pc' := 42) hE dX11_loadOf_41 rfl rfl rfl ?_
        refine dk_iload (pc' := 44) hE dX11_loadOf_42 rfl rfl ?_
        refine dk_iconst (pc' := 45) hE dX11_loadOf_44 (by decide) rfl ?_
        refine dk_icmp_ge (tgt := 52) (pc' := 48) hE dX11_loadOf_45 (by decide) rfl (fun hc15 => ?_) (fun hc15 => ?_)
        · skip
          refine dk_iload (pc' := 54) hE dX11_loadOf_52 rfl rfl ?_
          refine dk_iconst (pc' := 55) hE dX11_loadOf_54 (by decide) rfl ?_
          refine dk_icmp_ne (tgt := 62) (pc' := 58) hE dX11_loadOf_55 (by decide) rfl (fun hc16 => ?_) (fun hc16 => ?_)
          · skip
            refine dk_iconst (pc' := 63) hE dX11_loadOf_62 (by decide) rfl ?_
            obtain ⟨v17, hv17⟩ : ∃ z : Int, z = x + 0 := ⟨_, rfl⟩
            refine dk_iadd (pc' := 64) hE dX11_loadOf_63 hv17.symm (by omega) rfl ?_
            refine dk_istore_n (pc' := 65) (ls' := [(4, 141), (0, p), (0, r), (0, v17), (0, i), (0, v14)]) hE dX11_loadOf_64 rfl rfl (by decide) rfl ?_
            obtain ⟨v18, hv18⟩ : ∃ z : Int, z = i + 1 := ⟨_, rfl⟩
            refine dk_iinc (pc' := 68) (ls' := [(4, 141), (0, p), (0, r), (0, v17), (0, v18), (0, v14)]) hE dX11_loadOf_65 rfl hv18.symm (by omega) rfl (by decide) rfl ?_
            refine dk_goto (tgt := 21) hE dX11_loadOf_68 (by decide) ?_
            refine dk_drop (ls' := [(4, 141), (0, p), (0, r), (0, v17), (0, v18), (9, 0)]) [true, true, true, true, true, false] rfl ?_
            exact ih21 v17 v18 σ21c (by omega) (fun k_ j_ h_ => by rw [hF21 k_ j_ not_false]) (by omega) (by omega)
          · skip
            refine dk_iconst (pc' := 59) hE dX11_loadOf_58 (by decide) rfl ?_
            refine dk_goto (tgt := 63) hE dX11_loadOf_59 (by decide) ?_
            obtain ⟨v19, hv19⟩ : ∃ z : Int, z = x + 3 := ⟨_, rfl⟩
            refine dk_iadd (pc' := 64) hE dX11_loadOf_63 hv19.symm (by omega) rfl ?_
            refine dk_istore_n (pc' := 65) (ls' := [(4, 141), (0, p), (0, r), (0, v19), (0, i), (0, v14)]) hE dX11_loadOf_64 rfl rfl (by decide) rfl ?_
            obtain ⟨v20, hv20⟩ : ∃ z : Int, z = i + 1 := ⟨_, rfl⟩
            refine dk_iinc (pc' := 68) (ls' := [(4, 141), (0, p), (0, r), (0, v19), (0, v20), (0, v14)]) hE dX11_loadOf_65 rfl hv20.symm (by omega) rfl (by decide) rfl ?_
            refine dk_goto (tgt := 21) hE dX11_loadOf_68 (by decide) ?_
            refine dk_drop (ls' := [(4, 141), (0, p), (0, r), (0, v19), (0, v20), (9, 0)]) [true, true, true, true, true, false] rfl ?_
            exact ih21 v19 v20 σ21c (by omega) (fun k_ j_ h_ => by rw [hF21 k_ j_ not_false]) (by omega) (by omega)
        · skip
          refine dk_iconst (pc' := 49) hE dX11_loadOf_48 (by decide) rfl ?_
          refine dk_goto (tgt := 63) hE dX11_loadOf_49 (by decide) ?_
          obtain ⟨v21, hv21⟩ : ∃ z : Int, z = x + 1 := ⟨_, rfl⟩
          refine dk_iadd (pc' := 64) hE dX11_loadOf_63 hv21.symm (by omega) rfl ?_
          refine dk_istore_n (pc' := 65) (ls' := [(4, 141), (0, p), (0, r), (0, v21), (0, i), (0, v14)]) hE dX11_loadOf_64 rfl rfl (by decide) rfl ?_
          obtain ⟨v22, hv22⟩ : ∃ z : Int, z = i + 1 := ⟨_, rfl⟩
          refine dk_iinc (pc' := 68) (ls' := [(4, 141), (0, p), (0, r), (0, v21), (0, v22), (0, v14)]) hE dX11_loadOf_65 rfl hv22.symm (by omega) rfl (by decide) rfl ?_
          refine dk_goto (tgt := 21) hE dX11_loadOf_68 (by decide) ?_
          refine dk_drop (ls' := [(4, 141), (0, p), (0, r), (0, v21), (0, v22), (9, 0)]) [true, true, true, true, true, false] rfl ?_
          exact ih21 v21 v22 σ21c (by omega) (fun k_ j_ h_ => by rw [hF21 k_ j_ not_false]) (by omega) (by omega)
  exact lp21 _ v7 1 σ (Nat.lt_succ_self _) (fun k_ j_ h_ => rfl) (by omega) (by omega)
set_option maxHeartbeats 4000000 in
set_option maxRecDepth 20000 in
theorem ct_X11_load (l : Launch) (G : dkG) (hGd : dk_Gd G) (p r : Int) : dk_Ct l G dk_Ty yX11_load cX11_load 3 (some .int) 4 190 190 (fun av σ => av = [(4, 141), (0, p), (0, r)]) (fun _ σ r_ σ' => ∃ z : Int, r_ = some (0, z) ∧ (∀ k_ j_ : Int, ¬ (False) → σ' k_ j_ = σ k_ j_) ∧ (True)) := by
  refine dk_enter hGd (by decide) (fun av σ hpre hok => ?_)
  subst hpre
  refine ⟨Nat.le_of_ble_eq_true rfl, fun E hE hR _ => ?_⟩
  have hi_p : dk_i32 p := dk_oki (hok _ (by simp))
  have hi_r : dk_i32 r := dk_oki (hok _ (by simp))
  show dk_PJ E 0 [(4, 141), (0, p), (0, r)] [] 190 σ
  refine dk_aload_n (pc' := 1) hE dX11_load_0 rfl rfl rfl ?_
  refine dk_iload_n (pc' := 2) hE dX11_load_1 rfl rfl rfl ?_
  refine dk_cV (pc' := 5) (as := [(0, p)]) hE lk_X11_333 (ct_X11_isPart l G hGd p) dX11_load_2 rfl is_141 rfl (by decide) (Nat.le_of_ble_eq_true rfl) rfl rfl (fun r2 σ1 hr2 hor2 => ?_)
  obtain ⟨v3, rfl, hfσ1, hpr2⟩ := hr2
  have hsσ1 : σ = σ1 := (funext (fun k => funext (fun j => hfσ1 k j not_false))).symm
  subst hsσ1
  rcases hpr2 with ⟨rfl, hpr2⟩ | rfl
  · skip
    refine dk_if_eq (tgt := 24) (pc' := 8) hE dX11_load_5 (by decide) rfl (fun hc4 => absurd hc4 (by decide)) (fun hc4 => ?_)
    refine dk_iload_n (pc' := 9) hE dX11_load_8 rfl rfl rfl ?_
    refine dk_cS (pc' := 12) (as := [(0, r)]) hE lk_X11_342 (ct_X11_isReader l G hGd r) dX11_load_9 rfl rfl (by decide) (Nat.le_of_ble_eq_true rfl) rfl rfl (fun r6 σ5 hr6 hor6 => ?_)
    obtain ⟨v7, rfl, hfσ5, hpr6⟩ := hr6
    have hsσ5 : σ = σ5 := (funext (fun k => funext (fun j => hfσ5 k j not_false))).symm
    subst hsσ5
    rcases hpr6 with ⟨rfl, hpr6⟩ | ⟨rfl, hpr6⟩
    · skip
      refine dk_if_eq (tgt := 24) (pc' := 15) hE dX11_load_12 (by decide) rfl (fun hc8 => absurd hc8 (by decide)) (fun hc8 => ?_)
      refine dk_aload_n (pc' := 16) hE dX11_load_15 rfl rfl rfl ?_
      refine dk_iload_n (pc' := 17) hE dX11_load_16 rfl rfl rfl ?_
      refine dk_iload_n (pc' := 18) hE dX11_load_17 rfl rfl rfl ?_
      refine dk_cV (pc' := 21) (as := [(0, p), (0, r)]) hE lk_X11_362 (ct_X11_loadOf l G hGd p r) dX11_load_18 rfl is_141 rfl (by decide) (Nat.le_of_ble_eq_true rfl) ⟨rfl, (by omega), (by omega)⟩ rfl (fun r10 σ9 hr10 hor10 => ?_)
      obtain ⟨v11, rfl, hfσ9, hpr10⟩ := hr10
      have hsσ9 : σ = σ9 := (funext (fun k => funext (fun j => hfσ9 k j not_false))).symm
      subst hsσ9
      refine dk_goto (tgt := 25) hE dX11_load_21 (by decide) ?_
      exact dk_iret (st := []) hE hR dX11_load_25 ⟨_, rfl, (fun k_ j_ h_ => rfl), trivial⟩
    · skip
      refine dk_if_eq (tgt := 24) (pc' := 15) hE dX11_load_12 (by decide) rfl (fun hc12 => ?_) (fun hc12 => absurd hc12 (by decide))
      refine dk_iconst (pc' := 25) hE dX11_load_24 (by decide) rfl ?_
      exact dk_iret (st := []) hE hR dX11_load_25 ⟨_, rfl, (fun k_ j_ h_ => rfl), trivial⟩
  · skip
    refine dk_if_eq (tgt := 24) (pc' := 8) hE dX11_load_5 (by decide) rfl (fun hc13 => ?_) (fun hc13 => absurd hc13 (by decide))
    refine dk_iconst (pc' := 25) hE dX11_load_24 (by decide) rfl ?_
    exact dk_iret (st := []) hE hR dX11_load_25 ⟨_, rfl, (fun k_ j_ h_ => rfl), trivial⟩
set_option maxHeartbeats 4000000 in
set_option maxRecDepth 20000 in
theorem ct_X11_likeOf (l : Launch) (G : dkG) (hGd : dk_Gd G) (a b r : Int) : dk_Ct l G dk_Ty yX11_likeOf cX11_likeOf 6 (some .int) 3 190 190 (fun av σ => av = [(4, 141), (0, a), (0, b), (0, r)] ∧ (0 ≤ a ∧ a < 12) ∧ (0 ≤ b ∧ b < 12) ∧ (0 ≤ r ∧ r ≤ 1)) (fun _ σ r_ σ' => ∃ z : Int, r_ = some (0, z) ∧ (∀ k_ j_ : Int, ¬ (False) → σ' k_ j_ = σ k_ j_) ∧ (0 ≤ z ∧ z ≤ 32)) := by
  refine dk_enter hGd (by decide) (fun av σ hpre hok => ?_)
  obtain ⟨rfl, ha, hb, hr⟩ := hpre
  refine ⟨Nat.le_of_ble_eq_true rfl, fun E hE hR _ => ?_⟩
  have hi_a : dk_i32 a := dk_oki (hok _ (by simp))
  have hi_b : dk_i32 b := dk_oki (hok _ (by simp))
  have hi_r : dk_i32 r := dk_oki (hok _ (by simp))
  show dk_PJ E 0 [(4, 141), (0, a), (0, b), (0, r), (9, 0), (9, 0)] [] 190 σ
  refine dk_iconst (pc' := 1) hE dX11_likeOf_0 (by decide) rfl ?_
  refine dk_istore (pc' := 3) (ls' := [(4, 141), (0, a), (0, b), (0, r), (0, 0), (9, 0)]) hE dX11_likeOf_1 rfl (by decide) rfl ?_
  refine dk_iconst (pc' := 4) hE dX11_likeOf_3 (by decide) rfl ?_
  refine dk_istore (pc' := 6) (ls' := [(4, 141), (0, a), (0, b), (0, r), (0, 0), (0, 1)]) hE dX11_likeOf_4 rfl (by decide) rfl ?_
  have lp6 : ∀ (N_ : Nat) (x i : Int) (σ6c : dkS), (2147483648 - i).toNat < N_ → ((∀ k_ j_ : Int, ¬ (False) → σ6c k_ j_ = σ k_ j_)) → (1 ≤ i ∧ i ≤ 33) → (0 ≤ x ∧ x < i) → dk_PJ E 6 [(4, 141), (0, a), (0, b), (0, r), (0, x), (0, i)] [] 190 σ6c := by
    intro N6
    induction N6 with
    | zero => intro x i σ6c hm; exact absurd hm (Nat.not_lt_zero _)
    | succ N6 ih6 =>
      intro x i σ6c hm6 hF6 hi hx
      refine dk_iload (pc' := 8) hE dX11_likeOf_6 rfl rfl ?_
      refine dk_aload_n (pc' := 9) hE dX11_likeOf_8 rfl rfl rfl ?_
      refine dk_iload_n (pc' := 10) hE dX11_likeOf_9 rfl rfl rfl ?_
      refine dk_cV (pc' := 13) (as := [(0, a)]) hE lk_X11_339 (ct_X11_countsOf l G hGd a) dX11_likeOf_10 rfl is_141 rfl (by decide) (Nat.le_of_ble_eq_true rfl) ⟨rfl, (by omega)⟩ rfl (fun r2 σ1 hr2 hor2 => ?_)
      obtain ⟨v3, rfl, hfσ1, hpr2⟩ := hr2
      have hsσ1 : σ6c = σ1 := (funext (fun k => funext (fun j => hfσ1 k j not_false))).symm
      subst hsσ1
      refine dk_icmp_gt (tgt := 61) (pc' := 16) hE dX11_likeOf_13 (by decide) rfl (fun hc4 => ?_) (fun hc4 => ?_)
      · skip
        refine dk_iload (pc' := 63) hE dX11_likeOf_61 rfl rfl ?_
        exact dk_iret (st := []) hE hR dX11_likeOf_63 ⟨_, rfl, (fun k_ j_ h_ => by rw [hF6 k_ j_ not_false]), by omega⟩
      · skip
        refine dk_iload (pc' := 18) hE dX11_likeOf_16 rfl rfl ?_
        refine dk_aload_n (pc' := 19) hE dX11_likeOf_18 rfl rfl rfl ?_
        refine dk_iload_n (pc' := 20) hE dX11_likeOf_19 rfl rfl rfl ?_
        refine dk_cV (pc' := 23) (as := [(0, b)]) hE lk_X11_339 (ct_X11_countsOf l G hGd b) dX11_likeOf_20 rfl is_141 rfl (by decide) (Nat.le_of_ble_eq_true rfl) ⟨rfl, (by omega)⟩ rfl (fun r6 σ5 hr6 hor6 => ?_)
        obtain ⟨v7, rfl, hfσ5, hpr6⟩ := hr6
        have hsσ5 : σ6c = σ5 := (funext (fun k => funext (fun j => hfσ5 k j not_false))).symm
        subst hsσ5
        refine dk_icmp_gt (tgt := 61) (pc' := 26) hE dX11_likeOf_23 (by decide) rfl (fun hc8 => ?_) (fun hc8 => ?_)
        · skip
          refine dk_iload (pc' := 63) hE dX11_likeOf_61 rfl rfl ?_
          exact dk_iret (st := []) hE hR dX11_likeOf_63 ⟨_, rfl, (fun k_ j_ h_ => by rw [hF6 k_ j_ not_false]), by omega⟩
        · skip
          refine dk_iload (pc' := 28) hE dX11_likeOf_26 rfl rfl ?_
          refine dk_aload_n (pc' := 29) hE dX11_likeOf_28 rfl rfl rfl ?_
          refine dk_iload_n (pc' := 30) hE dX11_likeOf_29 rfl rfl rfl ?_
          refine dk_iload (pc' := 32) hE dX11_likeOf_30 rfl rfl ?_
          refine dk_iload_n (pc' := 33) hE dX11_likeOf_32 rfl rfl rfl ?_
          refine dk_cV (pc' := 36) (as := [(0, a), (0, i), (0, r)]) hE lk_X11_345 (ct_X11_stepAt l G hGd a i r) dX11_likeOf_33 rfl is_141 rfl (by decide) (Nat.le_of_ble_eq_true rfl) ⟨rfl, (by omega), (by omega), (by omega)⟩ rfl (fun r10 σ9 hr10 hor10 => ?_)
          obtain ⟨v11, rfl, hfσ9, hpr10⟩ := hr10
          have hsσ9 : σ6c = σ9 := (funext (fun k => funext (fun j => hfσ9 k j not_false))).symm
          subst hsσ9
          refine dk_aload_n (pc' := 37) hE dX11_likeOf_36 rfl rfl rfl ?_
          refine dk_iload_n (pc' := 38) hE dX11_likeOf_37 rfl rfl rfl ?_
          refine dk_iload (pc' := 40) hE dX11_likeOf_38 rfl rfl ?_
          refine dk_iload_n (pc' := 41) hE dX11_likeOf_40 rfl rfl rfl ?_
          refine dk_cV (pc' := 44) (as := [(0, b), (0, i), (0, r)]) hE lk_X11_345 (ct_X11_stepAt l G hGd b i r) dX11_likeOf_41 rfl is_141 rfl (by decide) (Nat.le_of_ble_eq_true rfl) ⟨rfl, (by omega), (by omega), (by omega)⟩ rfl (fun r13 σ12 hr13 hor13 => ?_)
          obtain ⟨v14, rfl, hfσ12, hpr13⟩ := hr13
          have hsσ12 : σ6c = σ12 := (funext (fun k => funext (fun j => hfσ12 k j not_false))).symm
          subst hsσ12
          refine dk_icmp_ne (tgt := 51) (pc' := 47) hE dX11_likeOf_44 (by decide) rfl (fun hc15 => ?_) (fun hc15 => ?_)
          · skip
            refine dk_iconst (pc' := 52) hE dX11_likeOf_51 (by decide) rfl ?_
            obtain ⟨v16, hv16⟩ : ∃ z : Int, z = x + 0 := ⟨_, rfl⟩
            refine dk_iadd (pc' := 53) hE dX11_likeOf_52 hv16.symm (by omega) rfl ?_
            refine dk_istore (pc' := 55) (ls' := [(4, 141), (0, a), (0, b), (0, r), (0, v16), (0, i)]) hE dX11_likeOf_53 rfl (by decide) rfl ?_
            obtain ⟨v17, hv17⟩ : ∃ z : Int, z = i + 1 := ⟨_, rfl⟩
            refine dk_iinc (pc' := 58) (ls' := [(4, 141), (0, a), (0, b), (0, r), (0, v16), (0, v17)]) hE dX11_likeOf_55 rfl hv17.symm (by omega) rfl (by decide) rfl ?_
            refine dk_goto (tgt := 6) hE dX11_likeOf_58 (by decide) ?_
            exact ih6 v16 v17 σ6c (by omega) (fun k_ j_ h_ => by rw [hF6 k_ j_ not_false]) (by omega) (by omega)
          · skip
            refine dk_iconst (pc' := 48) hE dX11_likeOf_47 (by decide) rfl ?_
            refine dk_goto (tgt := 52) hE dX11_likeOf_48 (by decide) ?_
            obtain ⟨v18, hv18⟩ : ∃ z : Int, z = x + 1 := ⟨_, rfl⟩
            refine dk_iadd (pc' := 53) hE dX11_likeOf_52 hv18.symm (by omega) rfl ?_
            refine dk_istore (pc' := 55) (ls' := [(4, 141), (0, a), (0, b), (0, r), (0, v18), (0, i)]) hE dX11_likeOf_53 rfl (by decide) rfl ?_
            obtain ⟨v19, hv19⟩ : ∃ z : Int, z = i + 1 := ⟨_, rfl⟩
            refine dk_iinc (pc' := 58) (ls' := [(4, 141), (0, a), (0, b), (0, r), (0, v18), (0, v19)]) hE dX11_likeOf_55 rfl hv19.symm (by omega) rfl (by decide) rfl ?_
            refine dk_goto (tgt := 6) hE dX11_likeOf_58 (by decide) ?_
            exact ih6 v18 v19 σ6c (by omega) (fun k_ j_ h_ => by rw [hF6 k_ j_ not_false]) (by omega) (by omega)
  exact lp6 _ 0 1 σ (Nat.lt_succ_self _) (fun k_ j_ h_ => rfl) (by omega) (by omega)
set_option maxHeartbeats 4000000 in
set_option maxRecDepth 20000 in
theorem ct_X11_like (l : Launch) (G : dkG) (hGd : dk_Gd G) (a b r : Int) : dk_Ct l G dk_Ty yX11_like cX11_like 4 (some .int) 4 190 190 (fun av σ => av = [(4, 141), (0, a), (0, b), (0, r)]) (fun _ σ r_ σ' => ∃ z : Int, r_ = some (0, z) ∧ (∀ k_ j_ : Int, ¬ (False) → σ' k_ j_ = σ k_ j_) ∧ (True)) := by
  refine dk_enter hGd (by decide) (fun av σ hpre hok => ?_)
  subst hpre
  refine ⟨Nat.le_of_ble_eq_true rfl, fun E hE hR _ => ?_⟩
  have hi_a : dk_i32 a := dk_oki (hok _ (by simp))
  have hi_b : dk_i32 b := dk_oki (hok _ (by simp))
  have hi_r : dk_i32 r := dk_oki (hok _ (by simp))
  show dk_PJ E 0 [(4, 141), (0, a), (0, b), (0, r)] [] 190 σ
  refine dk_aload_n (pc' := 1) hE dX11_like_0 rfl rfl rfl ?_
  refine dk_iload_n (pc' := 2) hE dX11_like_1 rfl rfl rfl ?_
  refine dk_cV (pc' := 5) (as := [(0, a)]) hE lk_X11_333 (ct_X11_isPart l G hGd a) dX11_like_2 rfl is_141 rfl (by decide) (Nat.le_of_ble_eq_true rfl) rfl rfl (fun r2 σ1 hr2 hor2 => ?_)
  obtain ⟨v3, rfl, hfσ1, hpr2⟩ := hr2
  have hsσ1 : σ = σ1 := (funext (fun k => funext (fun j => hfσ1 k j not_false))).symm
  subst hsσ1
  rcases hpr2 with ⟨rfl, hpr2⟩ | rfl
  · skip
    refine dk_if_eq (tgt := 33) (pc' := 8) hE dX11_like_5 (by decide) rfl (fun hc4 => absurd hc4 (by decide)) (fun hc4 => ?_)
    refine dk_aload_n (pc' := 9) hE dX11_like_8 rfl rfl rfl ?_
    refine dk_iload_n (pc' := 10) hE dX11_like_9 rfl rfl rfl ?_
    refine dk_cV (pc' := 13) (as := [(0, b)]) hE lk_X11_333 (ct_X11_isPart l G hGd b) dX11_like_10 rfl is_141 rfl (by decide) (Nat.le_of_ble_eq_true rfl) rfl rfl (fun r6 σ5 hr6 hor6 => ?_)
    obtain ⟨v7, rfl, hfσ5, hpr6⟩ := hr6
    have hsσ5 : σ = σ5 := (funext (fun k => funext (fun j => hfσ5 k j not_false))).symm
    subst hsσ5
    rcases hpr6 with ⟨rfl, hpr6⟩ | rfl
    · skip
      refine dk_if_eq (tgt := 33) (pc' := 16) hE dX11_like_13 (by decide) rfl (fun hc8 => absurd hc8 (by decide)) (fun hc8 => ?_)
      refine dk_iload_n (pc' := 17) hE dX11_like_16 rfl rfl rfl ?_
      refine dk_cS (pc' := 20) (as := [(0, r)]) hE lk_X11_342 (ct_X11_isReader l G hGd r) dX11_like_17 rfl rfl (by decide) (Nat.le_of_ble_eq_true rfl) rfl rfl (fun r10 σ9 hr10 hor10 => ?_)
      obtain ⟨v11, rfl, hfσ9, hpr10⟩ := hr10
      have hsσ9 : σ = σ9 := (funext (fun k => funext (fun j => hfσ9 k j not_false))).symm
      subst hsσ9
      rcases hpr10 with ⟨rfl, hpr10⟩ | ⟨rfl, hpr10⟩
      · skip
        refine dk_if_eq (tgt := 33) (pc' := 23) hE dX11_like_20 (by decide) rfl (fun hc12 => absurd hc12 (by decide)) (fun hc12 => ?_)
        refine dk_aload_n (pc' := 24) hE dX11_like_23 rfl rfl rfl ?_
        refine dk_iload_n (pc' := 25) hE dX11_like_24 rfl rfl rfl ?_
        refine dk_iload_n (pc' := 26) hE dX11_like_25 rfl rfl rfl ?_
        refine dk_iload_n (pc' := 27) hE dX11_like_26 rfl rfl rfl ?_
        refine dk_cV (pc' := 30) (as := [(0, a), (0, b), (0, r)]) hE lk_X11_365 (ct_X11_likeOf l G hGd a b r) dX11_like_27 rfl is_141 rfl (by decide) (Nat.le_of_ble_eq_true rfl) ⟨rfl, (by omega), (by omega), (by omega)⟩ rfl (fun r14 σ13 hr14 hor14 => ?_)
        obtain ⟨v15, rfl, hfσ13, hpr14⟩ := hr14
        have hsσ13 : σ = σ13 := (funext (fun k => funext (fun j => hfσ13 k j not_false))).symm
        subst hsσ13
        refine dk_goto (tgt := 34) hE dX11_like_30 (by decide) ?_
        exact dk_iret (st := []) hE hR dX11_like_34 ⟨_, rfl, (fun k_ j_ h_ => rfl), trivial⟩
      · skip
        refine dk_if_eq (tgt := 33) (pc' := 23) hE dX11_like_20 (by decide) rfl (fun hc16 => ?_) (fun hc16 => absurd hc16 (by decide))
        refine dk_iconst (pc' := 34) hE dX11_like_33 (by decide) rfl ?_
        exact dk_iret (st := []) hE hR dX11_like_34 ⟨_, rfl, (fun k_ j_ h_ => rfl), trivial⟩
    · skip
      refine dk_if_eq (tgt := 33) (pc' := 16) hE dX11_like_13 (by decide) rfl (fun hc17 => ?_) (fun hc17 => absurd hc17 (by decide))
      refine dk_iconst (pc' := 34) hE dX11_like_33 (by decide) rfl ?_
      exact dk_iret (st := []) hE hR dX11_like_34 ⟨_, rfl, (fun k_ j_ h_ => rfl), trivial⟩
  · skip
    refine dk_if_eq (tgt := 33) (pc' := 8) hE dX11_like_5 (by decide) rfl (fun hc18 => ?_) (fun hc18 => absurd hc18 (by decide))
    refine dk_iconst (pc' := 34) hE dX11_like_33 (by decide) rfl ?_
    exact dk_iret (st := []) hE hR dX11_like_34 ⟨_, rfl, (fun k_ j_ h_ => rfl), trivial⟩
set_option maxHeartbeats 4000000 in
set_option maxRecDepth 20000 in
theorem ct_X11_isNoted (l : Launch) (G : dkG) (hGd : dk_Gd G) (p : Int) : dk_Ct l G dk_Ty yX11_isNoted cX11_isNoted 2 (some .boolean) 3 190 190 (fun av σ => av = [(4, 141), (0, p)]) (fun _ σ r_ σ' => ∃ z : Int, r_ = some (0, z) ∧ (∀ k_ j_ : Int, ¬ (False) → σ' k_ j_ = σ k_ j_) ∧ (z = 1 ∧ (0 ≤ p ∧ p < 12) ∨ z = 0)) := by
  refine dk_enter hGd (by decide) (fun av σ hpre hok => ?_)
  subst hpre
  refine ⟨Nat.le_of_ble_eq_true rfl, fun E hE hR _ => ?_⟩
  have hi_p : dk_i32 p := dk_oki (hok _ (by simp))
  show dk_PJ E 0 [(4, 141), (0, p)] [] 190 σ
  refine dk_aload_n (pc' := 1) hE dX11_isNoted_0 rfl rfl rfl ?_
  refine dk_iload_n (pc' := 2) hE dX11_isNoted_1 rfl rfl rfl ?_
  refine dk_cV (pc' := 5) (as := [(0, p)]) hE lk_X11_333 (ct_X11_isPart l G hGd p) dX11_isNoted_2 rfl is_141 rfl (by decide) (Nat.le_of_ble_eq_true rfl) rfl rfl (fun r2 σ1 hr2 hor2 => ?_)
  obtain ⟨v3, rfl, hfσ1, hpr2⟩ := hr2
  have hsσ1 : σ = σ1 := (funext (fun k => funext (fun j => hfσ1 k j not_false))).symm
  subst hsσ1
  rcases hpr2 with ⟨rfl, hpr2⟩ | rfl
  · skip
    refine dk_if_eq (tgt := 25) (pc' := 8) hE dX11_isNoted_5 (by decide) rfl (fun hc4 => absurd hc4 (by decide)) (fun hc4 => ?_)
    refine dk_aload_n (pc' := 9) hE dX11_isNoted_8 rfl rfl rfl ?_
    refine gf_11_24 (pc' := 12) (w := 157) hE fl_X11_60 dX11_isNoted_9 is_141 rfl rfl ?_
    refine dk_aload_n (pc' := 13) hE dX11_isNoted_12 rfl rfl rfl ?_
    refine dk_iload_n (pc' := 14) hE dX11_isNoted_13 rfl rfl rfl ?_
    refine dk_cV (pc' := 17) (as := [(0, p)]) hE lk_X11_330 (ct_X11_at0 l G hGd p) dX11_isNoted_14 rfl is_141 rfl (by decide) (Nat.le_of_ble_eq_true rfl) ⟨rfl, (by omega)⟩ rfl (fun r6 σ5 hr6 hor6 => ?_)
    obtain ⟨v7, rfl, hfσ5, hpr6⟩ := hr6
    have hsσ5 : σ = σ5 := (funext (fun k => funext (fun j => hfσ5 k j not_false))).symm
    subst hsσ5
    refine ga_85 (pc' := 18) hE dX11_isNoted_17 is_157 (by omega) rfl (fun v8 hv8 htv8 hbv8 => ?_)
    refine dk_if_eq (tgt := 25) (pc' := 21) hE dX11_isNoted_18 (by decide) rfl (fun hc9 => ?_) (fun hc9 => ?_)
    · skip
      refine dk_iconst (pc' := 26) hE dX11_isNoted_25 (by decide) rfl ?_
      exact dk_zret (st := []) hE hR dX11_isNoted_26 (by omega) ⟨_, rfl, (fun k_ j_ h_ => rfl), by omega⟩
    · skip
      refine dk_iconst (pc' := 22) hE dX11_isNoted_21 (by decide) rfl ?_
      refine dk_goto (tgt := 26) hE dX11_isNoted_22 (by decide) ?_
      exact dk_zret (st := []) hE hR dX11_isNoted_26 (by omega) ⟨_, rfl, (fun k_ j_ h_ => rfl), by omega⟩
  · skip
    refine dk_if_eq (tgt := 25) (pc' := 8) hE dX11_isNoted_5 (by decide) rfl (fun hc10 => ?_) (fun hc10 => absurd hc10 (by decide))
    refine dk_iconst (pc' := 26) hE dX11_isNoted_25 (by decide) rfl ?_
    exact dk_zret (st := []) hE hR dX11_isNoted_26 (by omega) ⟨_, rfl, (fun k_ j_ h_ => rfl), by omega⟩
set_option maxHeartbeats 4000000 in
set_option maxRecDepth 20000 in
theorem ct_X11_rival (l : Launch) (G : dkG) (hGd : dk_Gd G) (p : Int) : dk_Ct l G dk_Ty yX11_rival cX11_rival 3 (some .int) 4 190 190 (fun av σ => av = [(4, 141), (0, p)]) (fun _ σ r_ σ' => ∃ z : Int, r_ = some (0, z) ∧ (∀ k_ j_ : Int, ¬ (False) → σ' k_ j_ = σ k_ j_) ∧ (True)) := by
  refine dk_enter hGd (by decide) (fun av σ hpre hok => ?_)
  subst hpre
  refine ⟨Nat.le_of_ble_eq_true rfl, fun E hE hR _ => ?_⟩
  have hi_p : dk_i32 p := dk_oki (hok _ (by simp))
  show dk_PJ E 0 [(4, 141), (0, p), (9, 0)] [] 190 σ
  refine dk_aload_n (pc' := 1) hE dX11_rival_0 rfl rfl rfl ?_
  refine dk_iload_n (pc' := 2) hE dX11_rival_1 rfl rfl rfl ?_
  refine dk_cV (pc' := 5) (as := [(0, p)]) hE lk_X11_368 (ct_X11_isNoted l G hGd p) dX11_rival_2 rfl is_141 rfl (by decide) (Nat.le_of_ble_eq_true rfl) rfl rfl (fun r2 σ1 hr2 hor2 => ?_)
  obtain ⟨v3, rfl, hfσ1, hpr2⟩ := hr2
  have hsσ1 : σ = σ1 := (funext (fun k => funext (fun j => hfσ1 k j not_false))).symm
  subst hsσ1
  rcases hpr2 with ⟨rfl, hpr2⟩ | rfl
  · skip
    refine dk_if_ne (tgt := 10) (pc' := 8) hE dX11_rival_5 (by decide) rfl (fun hc4 => ?_) (fun hc4 => absurd hc4 (by decide))
    refine dk_iconst (pc' := 11) hE dX11_rival_10 (by decide) rfl ?_
    refine dk_istore_n (pc' := 12) (ls' := [(4, 141), (0, p), (0, 1)]) hE dX11_rival_11 rfl rfl (by decide) rfl ?_
    have lp12 : ∀ (N_ : Nat) (i : Int) (σ12c : dkS), (2147483648 - i).toNat < N_ → ((∀ k_ j_ : Int, ¬ (False) → σ12c k_ j_ = σ k_ j_)) → (0 ≤ i) → (1 ≤ i) → dk_PJ E 12 [(4, 141), (0, p), (0, i)] [] 190 σ12c := by
      intro N12
      induction N12 with
      | zero => intro i σ12c hm; exact absurd hm (Nat.not_lt_zero _)
      | succ N12 ih12 =>
        intro i σ12c hm12 hF12 hi0 hi1
        refine dk_iload_n (pc' := 13) hE dX11_rival_12 rfl rfl rfl ?_
        refine dk_aload_n (pc' := 14) hE dX11_rival_13 rfl rfl rfl ?_
        refine dk_iload_n (pc' := 15) hE dX11_rival_14 rfl rfl rfl ?_
        refine dk_cV (pc' := 18) (as := [(0, p)]) hE lk_X11_339 (ct_X11_countsOf l G hGd p) dX11_rival_15 rfl is_141 rfl (by decide) (Nat.le_of_ble_eq_true rfl) ⟨rfl, (by omega)⟩ rfl (fun r6 σ5 hr6 hor6 => ?_)
        obtain ⟨v7, rfl, hfσ5, hpr6⟩ := hr6
        have hsσ5 : σ12c = σ5 := (funext (fun k => funext (fun j => hfσ5 k j not_false))).symm
        subst hsσ5
        refine dk_icmp_gt (tgt := 46) (pc' := 21) hE dX11_rival_18 (by decide) rfl (fun hc8 => ?_) (fun hc8 => ?_)
        · skip
          refine dk_iconst (pc' := 47) hE dX11_rival_46 (by decide) rfl ?_
          exact dk_iret (st := []) hE hR dX11_rival_47 ⟨_, rfl, (fun k_ j_ h_ => by rw [hF12 k_ j_ not_false]), trivial⟩
        · skip
          refine dk_aload_n (pc' := 22) hE dX11_rival_21 rfl rfl rfl ?_
          refine dk_iload_n (pc' := 23) hE dX11_rival_22 rfl rfl rfl ?_
          refine dk_iload_n (pc' := 24) hE dX11_rival_23 rfl rfl rfl ?_
          refine dk_iconst (pc' := 25) hE dX11_rival_24 (by decide) rfl ?_
          refine dk_cV (pc' := 28) (as := [(0, p), (0, i), (0, 0)]) hE lk_X11_345 (ct_X11_stepAt l G hGd p i 0) dX11_rival_25 rfl is_141 rfl (by decide) (Nat.le_of_ble_eq_true rfl) ⟨rfl, (by omega), (by omega), (by omega)⟩ rfl (fun r10 σ9 hr10 hor10 => ?_)
          obtain ⟨v11, rfl, hfσ9, hpr10⟩ := hr10
          have hsσ9 : σ12c = σ9 := (funext (fun k => funext (fun j => hfσ9 k j not_false))).symm
          subst hsσ9
          refine dk_aload_n (pc' := 29) hE dX11_rival_28 rfl rfl rfl ?_
          refine dk_iload_n (pc' := 30) hE dX11_rival_29 rfl rfl rfl ?_
          refine dk_iload_n (pc' := 31) hE dX11_rival_30 rfl rfl rfl ?_
          refine dk_iconst (pc' := 32) hE dX11_rival_31 (by decide) rfl ?_
          refine dk_cV (pc' := 35) (as := [(0, p), (0, i), (0, 1)]) hE lk_X11_345 (ct_X11_stepAt l G hGd p i 1) dX11_rival_32 rfl is_141 rfl (by decide) (Nat.le_of_ble_eq_true rfl) ⟨rfl, (by omega), (by omega), (by omega)⟩ rfl (fun r13 σ12 hr13 hor13 => ?_)
          obtain ⟨v14, rfl, hfσ12, hpr13⟩ := hr13
          have hsσ12 : σ12c = σ12 := (funext (fun k => funext (fun j => hfσ12 k j not_false))).symm
          subst hsσ12
          refine dk_icmp_eq (tgt := 40) (pc' := 38) hE dX11_rival_35 (by decide) rfl (fun hc15 => ?_) (fun hc15 => ?_)
          · skip
            obtain ⟨v16, hv16⟩ : ∃ z : Int, z = i + 1 := ⟨_, rfl⟩
            refine dk_iinc (pc' := 43) (ls' := [(4, 141), (0, p), (0, v16)]) hE dX11_rival_40 rfl hv16.symm (by omega) rfl (by decide) rfl ?_
            refine dk_goto (tgt := 12) hE dX11_rival_43 (by decide) ?_
            exact ih12 v16 σ12c (by omega) (fun k_ j_ h_ => by rw [hF12 k_ j_ not_false]) (by omega) (by omega)
          · skip
            refine dk_iload_n (pc' := 39) hE dX11_rival_38 rfl rfl rfl ?_
            exact dk_iret (st := []) hE hR dX11_rival_39 ⟨_, rfl, (fun k_ j_ h_ => by rw [hF12 k_ j_ not_false]), trivial⟩
    exact lp12 _ 1 σ (Nat.lt_succ_self _) (fun k_ j_ h_ => rfl) (by omega) (by omega)
  · skip
    refine dk_if_ne (tgt := 10) (pc' := 8) hE dX11_rival_5 (by decide) rfl (fun hc17 => absurd hc17 (by decide)) (fun hc17 => ?_)
    refine dk_iconst (pc' := 9) hE dX11_rival_8 (by decide) rfl ?_
    exact dk_iret (st := []) hE hR dX11_rival_9 ⟨_, rfl, (fun k_ j_ h_ => rfl), trivial⟩
set_option maxHeartbeats 4000000 in
set_option maxRecDepth 20000 in
theorem ct_X11_fault (l : Launch) (G : dkG) (hGd : dk_Gd G) (a : Int) : dk_Ct l G dk_Ty yX11_fault cX11_fault 2 (some .int) 1 190 190 (fun av σ => av = [(4, 141), (0, a)]) (fun _ σ r_ σ' => ∃ z : Int, r_ = some (0, z) ∧ (∀ k_ j_ : Int, ¬ (False) → σ' k_ j_ = σ k_ j_) ∧ (True)) := by
  refine dk_enter hGd (by decide) (fun av σ hpre hok => ?_)
  subst hpre
  refine ⟨Nat.le_of_ble_eq_true rfl, fun E hE hR _ => ?_⟩
  have hi_a : dk_i32 a := dk_oki (hok _ (by simp))
  show dk_PJ E 0 [(4, 141), (0, a)] [] 190 σ
  refine dk_iload_n (pc' := 1) hE dX11_fault_0 rfl rfl rfl ?_
  refine dk_if_ne (tgt := 11) (pc' := 4) hE dX11_fault_1 (by decide) rfl (fun hc1 => ?_) (fun hc1 => ?_)
  · skip
    refine dk_iload_n (pc' := 12) hE dX11_fault_11 rfl rfl rfl ?_
    refine dk_iconst (pc' := 13) hE dX11_fault_12 (by decide) rfl ?_
    refine dk_icmp_ne (tgt := 23) (pc' := 16) hE dX11_fault_13 (by decide) rfl (fun hc2 => ?_) (fun hc2 => ?_)
    · skip
      refine dk_iconst (pc' := 24) hE dX11_fault_23 (by decide) rfl ?_
      exact dk_iret (st := []) hE hR dX11_fault_24 ⟨_, rfl, (fun k_ j_ h_ => rfl), trivial⟩
    · skip
      refine dk_aload_n (pc' := 17) hE dX11_fault_16 rfl rfl rfl ?_
      refine gf_11_5 (pc' := 20) hE fl_X11_16 dX11_fault_17 is_141 rfl (fun v3 hv3 htv3 hbv3 => ?_)
      refine dk_goto (tgt := 24) hE dX11_fault_20 (by decide) ?_
      exact dk_iret (st := []) hE hR dX11_fault_24 ⟨_, rfl, (fun k_ j_ h_ => rfl), trivial⟩
  · skip
    refine dk_aload_n (pc' := 5) hE dX11_fault_4 rfl rfl rfl ?_
    refine gf_11_4 (pc' := 8) hE fl_X11_167 dX11_fault_5 is_141 rfl (fun v4 hv4 htv4 hbv4 => ?_)
    refine dk_goto (tgt := 24) hE dX11_fault_8 (by decide) ?_
    exact dk_iret (st := []) hE hR dX11_fault_24 ⟨_, rfl, (fun k_ j_ h_ => rfl), trivial⟩
set_option maxHeartbeats 4000000 in
set_option maxRecDepth 20000 in
theorem ct_X11_body (l : Launch) (G : dkG) (hGd : dk_Gd G) : dk_Ct l G dk_Ty yX11_body cX11_body 1 (some .int) 1 190 190 (fun av σ => av = [(4, 141)]) (fun _ σ r_ σ' => ∃ z : Int, r_ = some (0, z) ∧ (∀ k_ j_ : Int, ¬ ((k_ = 141 ∧ j_ = 52)) → σ' k_ j_ = σ k_ j_) ∧ (True)) := by
  refine dk_enter hGd (by decide) (fun av σ hpre hok => ?_)
  subst hpre
  refine ⟨Nat.le_of_ble_eq_true rfl, fun E hE hR _ => ?_⟩
  show dk_PJ E 0 [(4, 141)] [] 190 σ
  refine dk_aload_n (pc' := 1) hE dX11_body_0 rfl rfl rfl ?_
  refine gf_11_52 (pc' := 4) hE fl_X11_416 dX11_body_1 is_141 rfl (fun v1 hv1 htv1 hbv1 => ?_)
  refine dk_bipush (pc' := 6) hE dX11_body_4 (by decide) rfl ?_
  refine dk_icmp_ne (tgt := 11) (pc' := 9) hE dX11_body_6 (by decide) rfl (fun hc2 => ?_) (fun hc2 => ?_)
  · skip
    refine dk_aload_n (pc' := 12) hE dX11_body_11 rfl rfl rfl ?_
    refine dk_dup (pc' := 13) hE dX11_body_12 (show (4 : Nat) ≠ 3 by decide) rfl ?_
    refine gf_11_52 (pc' := 16) hE fl_X11_416 dX11_body_13 is_141 rfl (fun v3 hv3 htv3 hbv3 => ?_)
    have hq3 : v1 = v3 := (show v3 = v1 by rw [hv3, hv1]).symm
    subst hq3
    clear htv3 hbv3
    refine dk_iconst (pc' := 17) hE dX11_body_16 (by decide) rfl ?_
    obtain ⟨v4, hv4⟩ : ∃ z : Int, z = v1 + 1 := ⟨_, rfl⟩
    refine dk_iadd (pc' := 18) hE dX11_body_17 hv4.symm (by omega) rfl ?_
    refine pf_11_52 (pc' := 21) hE fl_X11_416 dX11_body_18 is_141 (by omega) rfl (fun σ5 eσ5 => ?_)
    refine dk_aload_n (pc' := 22) hE dX11_body_21 rfl rfl rfl ?_
    refine gf_11_52 (pc' := 25) hE fl_X11_416 dX11_body_22 is_141 rfl (fun v6 hv6 htv6 hbv6 => ?_)
    have hq6 : v4 = v6 := (show v6 = v4 by rw [hv6, eσ5, dk_up_s]).symm
    subst hq6
    clear htv6 hbv6
    refine dk_iconst (pc' := 26) hE dX11_body_25 (by decide) rfl ?_
    obtain ⟨v7, hv7⟩ : ∃ z : Int, z = v4 - 1 := ⟨_, rfl⟩
    refine dk_isub (pc' := 27) hE dX11_body_26 hv7.symm (by omega) rfl ?_
    exact dk_iret (st := []) hE hR dX11_body_27 ⟨_, rfl, (fun k_ j_ h_ => by rw [eσ5, dk_up_n (show ¬ (k_ = 141 ∧ j_ = 52) from fun q_ => h_ (q_))]), trivial⟩
  · skip
    refine dk_iconst (pc' := 10) hE dX11_body_9 (by decide) rfl ?_
    exact dk_iret (st := []) hE hR dX11_body_10 ⟨_, rfl, (fun k_ j_ h_ => rfl), trivial⟩
set_option maxHeartbeats 4000000 in
set_option maxRecDepth 20000 in
theorem ct_X11_isBody (l : Launch) (G : dkG) (hGd : dk_Gd G) (b : Int) : dk_Ct l G dk_Ty yX11_isBody cX11_isBody 2 (some .boolean) 2 190 190 (fun av σ => av = [(4, 141), (0, b)]) (fun _ σ r_ σ' => ∃ z : Int, r_ = some (0, z) ∧ (∀ k_ j_ : Int, ¬ (False) → σ' k_ j_ = σ k_ j_) ∧ (z = 1 ∧ (0 ≤ b ∧ b < 10) ∨ z = 0)) := by
  refine dk_enter hGd (by decide) (fun av σ hpre hok => ?_)
  subst hpre
  refine ⟨Nat.le_of_ble_eq_true rfl, fun E hE hR _ => ?_⟩
  have hi_b : dk_i32 b := dk_oki (hok _ (by simp))
  show dk_PJ E 0 [(4, 141), (0, b)] [] 190 σ
  refine dk_iload_n (pc' := 1) hE dX11_isBody_0 rfl rfl rfl ?_
  refine dk_iconst (pc' := 2) hE dX11_isBody_1 (by decide) rfl ?_
  refine dk_aload_n (pc' := 3) hE dX11_isBody_2 rfl rfl rfl ?_
  refine gf_11_52 (pc' := 6) hE fl_X11_416 dX11_isBody_3 is_141 rfl (fun v1 hv1 htv1 hbv1 => ?_)
  refine dk_iconst (pc' := 7) hE dX11_isBody_6 (by decide) rfl ?_
  obtain ⟨v2, hv2⟩ : ∃ z : Int, z = v1 - 1 := ⟨_, rfl⟩
  refine dk_isub (pc' := 8) hE dX11_isBody_7 hv2.symm (by omega) rfl ?_
  refine dk_cS (pc' := 11) (as := [(0, b), (0, 0), (0, v2)]) hE lk_X11_323 (ct_X11_isIn l G hGd b 0 v2) dX11_isBody_8 rfl rfl (by decide) (Nat.le_of_ble_eq_true rfl) rfl rfl (fun r4 σ3 hr4 hor4 => ?_)
  obtain ⟨v5, rfl, hfσ3, hpr4⟩ := hr4
  have hsσ3 : σ = σ3 := (funext (fun k => funext (fun j => hfσ3 k j not_false))).symm
  subst hsσ3
  rcases hpr4 with ⟨rfl, hpr4⟩ | ⟨rfl, hpr4⟩
  · skip
    exact dk_zret (st := []) hE hR dX11_isBody_11 (by omega) ⟨_, rfl, (fun k_ j_ h_ => rfl), by omega⟩
  · skip
    exact dk_zret (st := []) hE hR dX11_isBody_11 (by omega) ⟨_, rfl, (fun k_ j_ h_ => rfl), by omega⟩
set_option maxHeartbeats 4000000 in
set_option maxRecDepth 20000 in
theorem ct_X11_later (l : Launch) (G : dkG) (hGd : dk_Gd G) (a : Int) : dk_Ct l G dk_Ty yX11_later cX11_later 2 (some .int) 1 190 190 (fun av σ => av = [(4, 141), (0, a)]) (fun _ σ r_ σ' => ∃ z : Int, r_ = some (0, z) ∧ (∀ k_ j_ : Int, ¬ ((k_ = 141 ∧ j_ = 54)) → σ' k_ j_ = σ k_ j_) ∧ (True)) := by
  refine dk_enter hGd (by decide) (fun av σ hpre hok => ?_)
  subst hpre
  refine ⟨Nat.le_of_ble_eq_true rfl, fun E hE hR _ => ?_⟩
  have hi_a : dk_i32 a := dk_oki (hok _ (by simp))
  show dk_PJ E 0 [(4, 141), (0, a)] [] 190 σ
  refine dk_iload_n (pc' := 1) hE dX11_later_0 rfl rfl rfl ?_
  refine dk_if_lt (tgt := 23) (pc' := 4) hE dX11_later_1 (by decide) rfl (fun hc1 => ?_) (fun hc1 => ?_)
  · skip
    refine dk_iconst (pc' := 24) hE dX11_later_23 (by decide) rfl ?_
    exact dk_iret (st := []) hE hR dX11_later_24 ⟨_, rfl, (fun k_ j_ h_ => rfl), trivial⟩
  · skip
    refine dk_iload_n (pc' := 5) hE dX11_later_4 rfl rfl rfl ?_
    refine dk_sipush (pc' := 8) hE dX11_later_5 (by decide) rfl ?_
    refine dk_icmp_gt (tgt := 23) (pc' := 11) hE dX11_later_8 (by decide) rfl (fun hc2 => ?_) (fun hc2 => ?_)
    · skip
      refine dk_iconst (pc' := 24) hE dX11_later_23 (by decide) rfl ?_
      exact dk_iret (st := []) hE hR dX11_later_24 ⟨_, rfl, (fun k_ j_ h_ => rfl), trivial⟩
    · skip
      refine dk_aload_n (pc' := 12) hE dX11_later_11 rfl rfl rfl ?_
      refine gf_11_54 (pc' := 15) hE fl_X11_419 dX11_later_12 is_141 rfl (fun v3 hv3 htv3 hbv3 => ?_)
      refine dk_iload_n (pc' := 16) hE dX11_later_15 rfl rfl rfl ?_
      obtain ⟨v4, hv4⟩ : ∃ z : Int, z = v3 + a := ⟨_, rfl⟩
      refine dk_iadd (pc' := 17) hE dX11_later_16 hv4.symm (by omega) rfl ?_
      refine dk_ldcw (pc' := 20) hE dX11_later_17 cs_X11_429 (by decide) rfl ?_
      refine dk_icmp_le (tgt := 25) (pc' := 23) hE dX11_later_20 (by decide) rfl (fun hc5 => ?_) (fun hc5 => ?_)
      · skip
        refine dk_aload_n (pc' := 26) hE dX11_later_25 rfl rfl rfl ?_
        refine dk_dup (pc' := 27) hE dX11_later_26 (show (4 : Nat) ≠ 3 by decide) rfl ?_
        refine gf_11_54 (pc' := 30) hE fl_X11_419 dX11_later_27 is_141 rfl (fun v6 hv6 htv6 hbv6 => ?_)
        have hq6 : v3 = v6 := (show v6 = v3 by rw [hv6, hv3]).symm
        subst hq6
        clear htv6 hbv6
        refine dk_iload_n (pc' := 31) hE dX11_later_30 rfl rfl rfl ?_
        obtain ⟨v7, hv7⟩ : ∃ z : Int, z = v3 + a := ⟨_, rfl⟩
        refine dk_iadd (pc' := 32) hE dX11_later_31 hv7.symm (by omega) rfl ?_
        refine pf_11_54 (pc' := 35) hE fl_X11_419 dX11_later_32 is_141 (by omega) rfl (fun σ8 eσ8 => ?_)
        refine dk_aload_n (pc' := 36) hE dX11_later_35 rfl rfl rfl ?_
        refine gf_11_54 (pc' := 39) hE fl_X11_419 dX11_later_36 is_141 rfl (fun v9 hv9 htv9 hbv9 => ?_)
        have hq9 : v7 = v9 := (show v9 = v7 by rw [hv9, eσ8, dk_up_s]).symm
        subst hq9
        clear htv9 hbv9
        exact dk_iret (st := []) hE hR dX11_later_39 ⟨_, rfl, (fun k_ j_ h_ => by rw [eσ8, dk_up_n (show ¬ (k_ = 141 ∧ j_ = 54) from fun q_ => h_ (q_))]), trivial⟩
      · skip
        refine dk_iconst (pc' := 24) hE dX11_later_23 (by decide) rfl ?_
        exact dk_iret (st := []) hE hR dX11_later_24 ⟨_, rfl, (fun k_ j_ h_ => rfl), trivial⟩
set_option maxHeartbeats 4000000 in
set_option maxRecDepth 20000 in
theorem ct_X11_rooms (l : Launch) (G : dkG) (hGd : dk_Gd G) (a : Int) : dk_Ct l G dk_Ty yX11_rooms cX11_rooms 2 (some .boolean) 2 190 190 (fun av σ => av = [(4, 141), (0, a)]) (fun _ σ r_ σ' => ∃ z : Int, r_ = some (0, z) ∧ (∀ k_ j_ : Int, ¬ ((k_ = 141 ∧ j_ = 80)) → σ' k_ j_ = σ k_ j_) ∧ (z = 1 ∧ (1 ≤ a ∧ a ≤ 5) ∨ z = 0 ∧ (a < 1 ∨ 5 < a))) := by
  refine dk_enter hGd (by decide) (fun av σ hpre hok => ?_)
  subst hpre
  refine ⟨Nat.le_of_ble_eq_true rfl, fun E hE hR _ => ?_⟩
  have hi_a : dk_i32 a := dk_oki (hok _ (by simp))
  show dk_PJ E 0 [(4, 141), (0, a)] [] 190 σ
  refine dk_iload_n (pc' := 1) hE dX11_rooms_0 rfl rfl rfl ?_
  refine dk_iconst (pc' := 2) hE dX11_rooms_1 (by decide) rfl ?_
  refine dk_iconst (pc' := 3) hE dX11_rooms_2 (by decide) rfl ?_
  refine dk_cS (pc' := 6) (as := [(0, a), (0, 1), (0, 5)]) hE lk_X11_323 (ct_X11_isIn l G hGd a 1 5) dX11_rooms_3 rfl rfl (by decide) (Nat.le_of_ble_eq_true rfl) rfl rfl (fun r2 σ1 hr2 hor2 => ?_)
  obtain ⟨v3, rfl, hfσ1, hpr2⟩ := hr2
  have hsσ1 : σ = σ1 := (funext (fun k => funext (fun j => hfσ1 k j not_false))).symm
  subst hsσ1
  rcases hpr2 with ⟨rfl, hpr2⟩ | ⟨rfl, hpr2⟩
  · skip
    refine dk_if_ne (tgt := 11) (pc' := 9) hE dX11_rooms_6 (by decide) rfl (fun hc4 => ?_) (fun hc4 => absurd hc4 (by decide))
    refine dk_aload_n (pc' := 12) hE dX11_rooms_11 rfl rfl rfl ?_
    refine dk_iload_n (pc' := 13) hE dX11_rooms_12 rfl rfl rfl ?_
    refine pf_11_80 (pc' := 16) hE fl_X11_161 dX11_rooms_13 is_141 (by omega) rfl (fun σ5 eσ5 => ?_)
    refine dk_iconst (pc' := 17) hE dX11_rooms_16 (by decide) rfl ?_
    exact dk_zret (st := []) hE hR dX11_rooms_17 (by omega) ⟨_, rfl, (fun k_ j_ h_ => by rw [eσ5, dk_up_n (show ¬ (k_ = 141 ∧ j_ = 80) from fun q_ => h_ (q_))]), by omega⟩
  · skip
    refine dk_if_ne (tgt := 11) (pc' := 9) hE dX11_rooms_6 (by decide) rfl (fun hc6 => absurd hc6 (by decide)) (fun hc6 => ?_)
    refine dk_iconst (pc' := 10) hE dX11_rooms_9 (by decide) rfl ?_
    exact dk_zret (st := []) hE hR dX11_rooms_10 (by omega) ⟨_, rfl, (fun k_ j_ h_ => rfl), by omega⟩
set_option maxHeartbeats 4000000 in
set_option maxRecDepth 20000 in
theorem ct_X11_end (l : Launch) (G : dkG) (hGd : dk_Gd G) (a : Int) : dk_Ct l G dk_Ty yX11_end cX11_end 2 (some .int) 1 190 190 (fun av σ => av = [(4, 141), (0, a)]) (fun _ σ r_ σ' => ∃ z : Int, r_ = some (0, z) ∧ (∀ k_ j_ : Int, ¬ ((k_ = 141 ∧ j_ = 2)) → σ' k_ j_ = σ k_ j_) ∧ (True)) := by
  refine dk_enter hGd (by decide) (fun av σ hpre hok => ?_)
  subst hpre
  refine ⟨Nat.le_of_ble_eq_true rfl, fun E hE hR _ => ?_⟩
  have hi_a : dk_i32 a := dk_oki (hok _ (by simp))
  show dk_PJ E 0 [(4, 141), (0, a)] [] 190 σ
  refine dk_iload_n (pc' := 1) hE dX11_end_0 rfl rfl rfl ?_
  refine dk_if_lt (tgt := 12) (pc' := 4) hE dX11_end_1 (by decide) rfl (fun hc1 => ?_) (fun hc1 => ?_)
  · skip
    refine dk_iconst (pc' := 13) hE dX11_end_12 (by decide) rfl ?_
    exact dk_iret (st := []) hE hR dX11_end_13 ⟨_, rfl, (fun k_ j_ h_ => rfl), trivial⟩
  · skip
    refine dk_iload_n (pc' := 5) hE dX11_end_4 rfl rfl rfl ?_
    refine dk_aload_n (pc' := 6) hE dX11_end_5 rfl rfl rfl ?_
    refine gf_11_2 (pc' := 9) hE fl_X11_260 dX11_end_6 is_141 rfl (fun v2 hv2 htv2 hbv2 => ?_)
    refine dk_icmp_le (tgt := 14) (pc' := 12) hE dX11_end_9 (by decide) rfl (fun hc3 => ?_) (fun hc3 => ?_)
    · skip
      refine dk_aload_n (pc' := 15) hE dX11_end_14 rfl rfl rfl ?_
      refine dk_iload_n (pc' := 16) hE dX11_end_15 rfl rfl rfl ?_
      refine pf_11_2 (pc' := 19) hE fl_X11_260 dX11_end_16 is_141 (by omega) rfl (fun σ4 eσ4 => ?_)
      refine dk_iload_n (pc' := 20) hE dX11_end_19 rfl rfl rfl ?_
      exact dk_iret (st := []) hE hR dX11_end_20 ⟨_, rfl, (fun k_ j_ h_ => by rw [eσ4, dk_up_n (show ¬ (k_ = 141 ∧ j_ = 2) from fun q_ => h_ (q_))]), trivial⟩
    · skip
      refine dk_iconst (pc' := 13) hE dX11_end_12 (by decide) rfl ?_
      exact dk_iret (st := []) hE hR dX11_end_13 ⟨_, rfl, (fun k_ j_ h_ => rfl), trivial⟩
set_option maxHeartbeats 4000000 in
set_option maxRecDepth 20000 in
theorem ct_X11_about (l : Launch) (G : dkG) (hGd : dk_Gd G) (a : Int) : dk_Ct l G dk_Ty yX11_about cX11_about 2 (some .int) 2 190 190 (fun av σ => av = [(4, 141), (0, a)]) (fun _ σ r_ σ' => ∃ z : Int, r_ = some (0, z) ∧ (∀ k_ j_ : Int, ¬ (False) → σ' k_ j_ = σ k_ j_) ∧ (True)) := by
  refine dk_enter hGd (by decide) (fun av σ hpre hok => ?_)
  subst hpre
  refine ⟨Nat.le_of_ble_eq_true rfl, fun E hE hR _ => ?_⟩
  have hi_a : dk_i32 a := dk_oki (hok _ (by simp))
  show dk_PJ E 0 [(4, 141), (0, a)] [] 190 σ
  refine dk_iload_n (pc' := 1) hE dX11_about_0 rfl rfl rfl ?_
  refine dk_table (tgs := [60, 65, 70, 75, 80, 85, 90, 95, 100, 110, 120]) (td := 130) hE dX11_about_1 (by decide) (by decide) (by decide) (fun hc1 => ?_) (fun i2 t3 q4 hc1 => ?_)
  · skip
    refine dk_iconst (pc' := 131) hE dX11_about_130 (by decide) rfl ?_
    exact dk_iret (st := []) hE hR dX11_about_131 ⟨_, rfl, (fun k_ j_ h_ => rfl), trivial⟩
  · have i2l : i2 < 11 := (List.getElem?_eq_some_iff.mp q4).1
    rcases (show i2 = 0 ∨ i2 = 1 ∨ i2 = 2 ∨ i2 = 3 ∨ i2 = 4 ∨ i2 = 5 ∨ i2 = 6 ∨ i2 = 7 ∨ i2 = 8 ∨ i2 = 9 ∨ i2 = 10 by omega) with rfl | rfl | rfl | rfl | rfl | rfl | rfl | rfl | rfl | rfl | rfl
    · cases q4
      refine dk_aload_n (pc' := 61) hE dX11_about_60 rfl rfl rfl ?_
      refine dk_cV (pc' := 64) (as := []) hE lk_X11_327 (ct_X11_works0 l G hGd) dX11_about_61 rfl is_141 rfl (by decide) (Nat.le_of_ble_eq_true rfl) rfl rfl (fun r6 σ5 hr6 hor6 => ?_)
      obtain ⟨v7, rfl, hfσ5, hpr6⟩ := hr6
      have hsσ5 : σ = σ5 := (funext (fun k => funext (fun j => hfσ5 k j not_false))).symm
      subst hsσ5
      exact dk_iret (st := []) hE hR dX11_about_64 ⟨_, rfl, (fun k_ j_ h_ => rfl), trivial⟩
    · cases q4
      refine dk_aload_n (pc' := 66) hE dX11_about_65 rfl rfl rfl ?_
      refine dk_cV (pc' := 69) (as := []) hE lk_X11_319 (ct_X11_parts l G hGd) dX11_about_66 rfl is_141 rfl (by decide) (Nat.le_of_ble_eq_true rfl) rfl rfl (fun r9 σ8 hr9 hor9 => ?_)
      obtain ⟨v10, rfl, hfσ8, hpr9⟩ := hr9
      have hsσ8 : σ = σ8 := (funext (fun k => funext (fun j => hfσ8 k j not_false))).symm
      subst hsσ8
      exact dk_iret (st := []) hE hR dX11_about_69 ⟨_, rfl, (fun k_ j_ h_ => rfl), trivial⟩
    · cases q4
      refine dk_aload_n (pc' := 71) hE dX11_about_70 rfl rfl rfl ?_
      refine gf_11_52 (pc' := 74) hE fl_X11_416 dX11_about_71 is_141 rfl (fun v11 hv11 htv11 hbv11 => ?_)
      exact dk_iret (st := []) hE hR dX11_about_74 ⟨_, rfl, (fun k_ j_ h_ => rfl), trivial⟩
    · cases q4
      refine dk_aload_n (pc' := 76) hE dX11_about_75 rfl rfl rfl ?_
      refine gf_11_53 (pc' := 79) hE fl_X11_275 dX11_about_76 is_141 rfl (fun v12 hv12 htv12 hbv12 => ?_)
      exact dk_iret (st := []) hE hR dX11_about_79 ⟨_, rfl, (fun k_ j_ h_ => rfl), trivial⟩
    · cases q4
      refine dk_aload_n (pc' := 81) hE dX11_about_80 rfl rfl rfl ?_
      refine gf_11_41 (pc' := 84) hE fl_X11_374 dX11_about_81 is_141 rfl (fun v13 hv13 htv13 hbv13 => ?_)
      exact dk_iret (st := []) hE hR dX11_about_84 ⟨_, rfl, (fun k_ j_ h_ => rfl), trivial⟩
    · cases q4
      refine dk_aload_n (pc' := 86) hE dX11_about_85 rfl rfl rfl ?_
      refine gf_11_79 (pc' := 89) hE fl_X11_278 dX11_about_86 is_141 rfl (fun v14 hv14 htv14 hbv14 => ?_)
      exact dk_iret (st := []) hE hR dX11_about_89 ⟨_, rfl, (fun k_ j_ h_ => rfl), trivial⟩
    · cases q4
      refine dk_aload_n (pc' := 91) hE dX11_about_90 rfl rfl rfl ?_
      refine gf_11_54 (pc' := 94) hE fl_X11_419 dX11_about_91 is_141 rfl (fun v15 hv15 htv15 hbv15 => ?_)
      exact dk_iret (st := []) hE hR dX11_about_94 ⟨_, rfl, (fun k_ j_ h_ => rfl), trivial⟩
    · cases q4
      refine dk_aload_n (pc' := 96) hE dX11_about_95 rfl rfl rfl ?_
      refine gf_11_2 (pc' := 99) hE fl_X11_260 dX11_about_96 is_141 rfl (fun v16 hv16 htv16 hbv16 => ?_)
      exact dk_iret (st := []) hE hR dX11_about_99 ⟨_, rfl, (fun k_ j_ h_ => rfl), trivial⟩
    · cases q4
      refine dk_aload_n (pc' := 101) hE dX11_about_100 rfl rfl rfl ?_
      refine gf_11_15 (pc' := 104) (w := 148) hE fl_X11_33 dX11_about_101 is_141 rfl rfl ?_
      refine dk_aload_n (pc' := 105) hE dX11_about_104 rfl rfl rfl ?_
      refine gf_11_27 (pc' := 108) hE fl_X11_266 dX11_about_105 is_141 rfl (fun v17 hv17 htv17 hbv17 => ?_)
      refine ga_76 (pc' := 109) hE dX11_about_108 is_148 (by omega) rfl (fun v18 hv18 htv18 hbv18 => ?_)
      exact dk_iret (st := []) hE hR dX11_about_109 ⟨_, rfl, (fun k_ j_ h_ => rfl), trivial⟩
    · cases q4
      refine dk_aload_n (pc' := 111) hE dX11_about_110 rfl rfl rfl ?_
      refine gf_11_16 (pc' := 114) (w := 149) hE fl_X11_36 dX11_about_111 is_141 rfl rfl ?_
      refine dk_aload_n (pc' := 115) hE dX11_about_114 rfl rfl rfl ?_
      refine gf_11_27 (pc' := 118) hE fl_X11_266 dX11_about_115 is_141 rfl (fun v19 hv19 htv19 hbv19 => ?_)
      refine ga_77 (pc' := 119) hE dX11_about_118 is_149 (by omega) rfl (fun v20 hv20 htv20 hbv20 => ?_)
      exact dk_iret (st := []) hE hR dX11_about_119 ⟨_, rfl, (fun k_ j_ h_ => rfl), trivial⟩
    · cases q4
      refine dk_aload_n (pc' := 121) hE dX11_about_120 rfl rfl rfl ?_
      refine gf_11_17 (pc' := 124) (w := 150) hE fl_X11_39 dX11_about_121 is_141 rfl rfl ?_
      refine dk_aload_n (pc' := 125) hE dX11_about_124 rfl rfl rfl ?_
      refine gf_11_27 (pc' := 128) hE fl_X11_266 dX11_about_125 is_141 rfl (fun v21 hv21 htv21 hbv21 => ?_)
      refine ga_78 (pc' := 129) hE dX11_about_128 is_150 (by omega) rfl (fun v22 hv22 htv22 hbv22 => ?_)
      exact dk_iret (st := []) hE hR dX11_about_129 ⟨_, rfl, (fun k_ j_ h_ => rfl), trivial⟩
set_option maxHeartbeats 4000000 in
set_option maxRecDepth 20000 in
theorem ct_X11_feed (l : Launch) (G : dkG) (hGd : dk_Gd G) (a b c d e : Int) : dk_Ct l G dk_Ty yX11_feed cX11_feed 8 (some .int) 1 190 190 (fun av σ => av = [(4, 141), (0, a), (0, b), (0, c), (0, d), (0, e)]) (fun _ σ r_ σ' => ∃ z : Int, r_ = some (0, z) ∧ (∀ k_ j_ : Int, ¬ (k_ = 142 ∨ (k_ = 141 ∧ j_ = 2)) → σ' k_ j_ = σ k_ j_) ∧ (True)) := by
  refine dk_enter hGd (by decide) (fun av σ hpre hok => ?_)
  subst hpre
  refine ⟨Nat.le_of_ble_eq_true rfl, fun E hE hR _ => ?_⟩
  have hi_a : dk_i32 a := dk_oki (hok _ (by simp))
  have hi_b : dk_i32 b := dk_oki (hok _ (by simp))
  have hi_c : dk_i32 c := dk_oki (hok _ (by simp))
  have hi_d : dk_i32 d := dk_oki (hok _ (by simp))
  have hi_e : dk_i32 e := dk_oki (hok _ (by simp))
  show dk_PJ E 0 [(4, 141), (0, a), (0, b), (0, c), (0, d), (0, e), (9, 0), (9, 0)] [] 190 σ
  refine dk_aload_n (pc' := 1) hE dX11_feed_0 rfl rfl rfl ?_
  refine gf_11_2 (pc' := 4) hE fl_X11_260 dX11_feed_1 is_141 rfl (fun v1 hv1 htv1 hbv1 => ?_)
  refine dk_bipush (pc' := 6) hE dX11_feed_4 (by decide) rfl ?_
  obtain ⟨v2, hv2⟩ : ∃ z : Int, z = v1 + 20 := ⟨_, rfl⟩
  refine dk_iadd (pc' := 7) hE dX11_feed_6 hv2.symm (by omega) rfl ?_
  refine dk_sipush (pc' := 10) hE dX11_feed_7 (by decide) rfl ?_
  refine dk_icmp_le (tgt := 15) (pc' := 13) hE dX11_feed_10 (by decide) rfl (fun hc3 => ?_) (fun hc3 => ?_)
  · skip
    refine dk_iconst (pc' := 16) hE dX11_feed_15 (by decide) rfl ?_
    refine dk_istore (pc' := 18) (ls' := [(4, 141), (0, a), (0, b), (0, c), (0, d), (0, e), (0, 0), (9, 0)]) hE dX11_feed_16 rfl (by decide) rfl ?_
    have lp18 : ∀ (N_ : Nat) (i : Int) (σ18c : dkS), (2147483648 - i).toNat < N_ → ((∀ k_ j_ : Int, ¬ (k_ = 142) → σ18c k_ j_ = σ k_ j_)) → (0 ≤ i) → dk_PJ E 18 [(4, 141), (0, a), (0, b), (0, c), (0, d), (0, e), (0, i), (9, 0)] [] 190 σ18c := by
      intro N18
      induction N18 with
      | zero => intro i σ18c hm; exact absurd hm (Nat.not_lt_zero _)
      | succ N18 ih18 =>
        intro i σ18c hm18 hF18 hi0
        refine dk_iload (pc' := 20) hE dX11_feed_18 rfl rfl ?_
        refine dk_bipush (pc' := 22) hE dX11_feed_20 (by decide) rfl ?_
        refine dk_icmp_ge (tgt := 105) (pc' := 25) hE dX11_feed_22 (by decide) rfl (fun hc4 => ?_) (fun hc4 => ?_)
        · skip
          refine dk_aload_n (pc' := 106) hE dX11_feed_105 rfl rfl rfl ?_
          refine dk_dup (pc' := 107) hE dX11_feed_106 (show (4 : Nat) ≠ 3 by decide) rfl ?_
          refine gf_11_2 (pc' := 110) hE fl_X11_260 dX11_feed_107 is_141 rfl (fun v5 hv5 htv5 hbv5 => ?_)
          have hq5 : v1 = v5 := (show v5 = v1 by rw [hv5, hF18 141 2 (by omega), hv1]).symm
          subst hq5
          clear htv5 hbv5
          refine dk_bipush (pc' := 112) hE dX11_feed_110 (by decide) rfl ?_
          obtain ⟨v6, hv6⟩ : ∃ z : Int, z = v1 + 20 := ⟨_, rfl⟩
          refine dk_iadd (pc' := 113) hE dX11_feed_112 hv6.symm (by omega) rfl ?_
          refine pf_11_2 (pc' := 116) hE fl_X11_260 dX11_feed_113 is_141 (by omega) rfl (fun σ7 eσ7 => ?_)
          refine dk_aload_n (pc' := 117) hE dX11_feed_116 rfl rfl rfl ?_
          refine gf_11_2 (pc' := 120) hE fl_X11_260 dX11_feed_117 is_141 rfl (fun v8 hv8 htv8 hbv8 => ?_)
          have hq8 : v6 = v8 := (show v8 = v6 by rw [hv8, eσ7, dk_up_s]).symm
          subst hq8
          clear htv8 hbv8
          exact dk_iret (st := []) hE hR dX11_feed_120 ⟨_, rfl, (fun k_ j_ h_ => by rw [eσ7, dk_up_n (show ¬ (k_ = 141 ∧ j_ = 2) from fun q_ => h_ (Or.inr (q_))), hF18 k_ j_ (fun w_ => h_ (Or.inl (w_)))]), trivial⟩
        · skip
          refine dk_iload (pc' := 27) hE dX11_feed_25 rfl rfl ?_
          refine dk_iconst (pc' := 28) hE dX11_feed_27 (by decide) rfl ?_
          refine dk_icmp_ge (tgt := 35) (pc' := 31) hE dX11_feed_28 (by decide) rfl (fun hc9 => ?_) (fun hc9 => ?_)
          · skip
            refine dk_iload (pc' := 37) hE dX11_feed_35 rfl rfl ?_
            refine dk_bipush (pc' := 39) hE dX11_feed_37 (by decide) rfl ?_
            refine dk_icmp_ge (tgt := 46) (pc' := 42) hE dX11_feed_39 (by decide) rfl (fun hc10 => ?_) (fun hc10 => ?_)
            · skip
              refine dk_iload (pc' := 48) hE dX11_feed_46 rfl rfl ?_
              refine dk_bipush (pc' := 50) hE dX11_feed_48 (by decide) rfl ?_
              refine dk_icmp_ge (tgt := 57) (pc' := 53) hE dX11_feed_50 (by decide) rfl (fun hc11 => ?_) (fun hc11 => ?_)
              · skip
                refine dk_iload (pc' := 59) hE dX11_feed_57 rfl rfl ?_
                refine dk_bipush (pc' := 61) hE dX11_feed_59 (by decide) rfl ?_
                refine dk_icmp_ge (tgt := 69) (pc' := 64) hE dX11_feed_61 (by decide) rfl (fun hc12 => ?_) (fun hc12 => ?_)
                · skip
                  refine dk_iload (pc' := 71) hE dX11_feed_69 rfl rfl ?_
                  refine dk_istore (pc' := 73) (ls' := [(4, 141), (0, a), (0, b), (0, c), (0, d), (0, e), (0, i), (0, e)]) hE dX11_feed_71 rfl (by decide) rfl ?_
                  refine dk_aload_n (pc' := 74) hE dX11_feed_73 rfl rfl rfl ?_
                  refine gf_11_0 (pc' := 77) (w := 142) hE fl_X11_7 dX11_feed_74 is_141 rfl rfl ?_
                  refine dk_aload_n (pc' := 78) hE dX11_feed_77 rfl rfl rfl ?_
                  refine gf_11_2 (pc' := 81) hE fl_X11_260 dX11_feed_78 is_141 rfl (fun v13 hv13 htv13 hbv13 => ?_)
                  have hq13 : v1 = v13 := (show v13 = v1 by rw [hv13, hF18 141 2 (by omega), hv1]).symm
                  subst hq13
                  clear htv13 hbv13
                  refine dk_iload (pc' := 83) hE dX11_feed_81 rfl rfl ?_
                  obtain ⟨v14, hv14⟩ : ∃ z : Int, z = v1 + i := ⟨_, rfl⟩
                  refine dk_iadd (pc' := 84) hE dX11_feed_83 hv14.symm (by omega) rfl ?_
                  refine dk_iload (pc' := 86) hE dX11_feed_84 rfl rfl ?_
                  refine dk_bipush (pc' := 88) hE dX11_feed_86 (by decide) rfl ?_
                  refine dk_bipush (pc' := 90) hE dX11_feed_88 (by decide) rfl ?_
                  refine dk_iload (pc' := 92) hE dX11_feed_90 rfl rfl ?_
                  refine dk_iconst (pc' := 93) hE dX11_feed_92 (by decide) rfl ?_
                  refine dk_iand (pc' := 94) hE dX11_feed_93 rfl (fun v15 hv15 ev15 => ?_)
                  refine dk_imulW (pc' := 95) hE dX11_feed_94 rfl (fun v16 hv16 _ => ?_)
                  refine dk_isubW (pc' := 96) hE dX11_feed_95 rfl (fun v17 hv17 _ => ?_)
                  refine dk_ishr (pc' := 97) hE dX11_feed_96 rfl (fun v18 hv18 ev18 => ?_)
                  refine dk_i2b (pc' := 98) hE dX11_feed_97 rfl (fun v19 hv19 ev19 => ?_)
                  have hbv19 := dk_b_in ev19
                  refine pa_70 (pc' := 99) hE dX11_feed_98 is_142 (by omega) (by omega) trivial rfl (fun σ20 eσ20 => ?_)
                  obtain ⟨v21, hv21⟩ : ∃ z : Int, z = i + 1 := ⟨_, rfl⟩
                  refine dk_iinc (pc' := 102) (ls' := [(4, 141), (0, a), (0, b), (0, c), (0, d), (0, e), (0, v21), (0, e)]) hE dX11_feed_99 rfl hv21.symm (by omega) rfl (by decide) rfl ?_
                  refine dk_goto (tgt := 18) hE dX11_feed_102 (by decide) ?_
                  refine dk_drop (ls' := [(4, 141), (0, a), (0, b), (0, c), (0, d), (0, e), (0, v21), (9, 0)]) [true, true, true, true, true, true, true, false] rfl ?_
                  exact ih18 v21 σ20 (by omega) (fun k_ j_ h_ => by rw [eσ20, dk_up_n (show ¬ (k_ = 142 ∧ j_ = v14) from fun q_ => h_ (q_.1)), hF18 k_ j_ (fun w_ => h_ (w_))]) (by omega)
                · skip
                  refine dk_iload (pc' := 66) hE dX11_feed_64 rfl rfl ?_
                  refine dk_goto (tgt := 71) hE dX11_feed_66 (by decide) ?_
                  refine dk_istore (pc' := 73) (ls' := [(4, 141), (0, a), (0, b), (0, c), (0, d), (0, e), (0, i), (0, d)]) hE dX11_feed_71 rfl (by decide) rfl ?_
                  refine dk_aload_n (pc' := 74) hE dX11_feed_73 rfl rfl rfl ?_
                  refine gf_11_0 (pc' := 77) (w := 142) hE fl_X11_7 dX11_feed_74 is_141 rfl rfl ?_
                  refine dk_aload_n (pc' := 78) hE dX11_feed_77 rfl rfl rfl ?_
                  refine gf_11_2 (pc' := 81) hE fl_X11_260 dX11_feed_78 is_141 rfl (fun v22 hv22 htv22 hbv22 => ?_)
                  have hq22 : v1 = v22 := (show v22 = v1 by rw [hv22, hF18 141 2 (by omega), hv1]).symm
                  subst hq22
                  clear htv22 hbv22
                  refine dk_iload (pc' := 83) hE dX11_feed_81 rfl rfl ?_
                  obtain ⟨v23, hv23⟩ : ∃ z : Int, z = v1 + i := ⟨_, rfl⟩
                  refine dk_iadd (pc' := 84) hE dX11_feed_83 hv23.symm (by omega) rfl ?_
                  refine dk_iload (pc' := 86) hE dX11_feed_84 rfl rfl ?_
                  refine dk_bipush (pc' := 88) hE dX11_feed_86 (by decide) rfl ?_
                  refine dk_bipush (pc' := 90) hE dX11_feed_88 (by decide) rfl ?_
                  refine dk_iload (pc' := 92) hE dX11_feed_90 rfl rfl ?_
                  refine dk_iconst (pc' := 93) hE dX11_feed_92 (by decide) rfl ?_
                  refine dk_iand (pc' := 94) hE dX11_feed_93 rfl (fun v24 hv24 ev24 => ?_)
                  refine dk_imulW (pc' := 95) hE dX11_feed_94 rfl (fun v25 hv25 _ => ?_)
                  refine dk_isubW (pc' := 96) hE dX11_feed_95 rfl (fun v26 hv26 _ => ?_)
                  refine dk_ishr (pc' := 97) hE dX11_feed_96 rfl (fun v27 hv27 ev27 => ?_)
                  refine dk_i2b (pc' := 98) hE dX11_feed_97 rfl (fun v28 hv28 ev28 => ?_)
                  have hbv28 := dk_b_in ev28
                  refine pa_70 (pc' := 99) hE dX11_feed_98 is_142 (by omega) (by omega) trivial rfl (fun σ29 eσ29 => ?_)
                  obtain ⟨v30, hv30⟩ : ∃ z : Int, z = i + 1 := ⟨_, rfl⟩
                  refine dk_iinc (pc' := 102) (ls' := [(4, 141), (0, a), (0, b), (0, c), (0, d), (0, e), (0, v30), (0, d)]) hE dX11_feed_99 rfl hv30.symm (by omega) rfl (by decide) rfl ?_
                  refine dk_goto (tgt := 18) hE dX11_feed_102 (by decide) ?_
                  refine dk_drop (ls' := [(4, 141), (0, a), (0, b), (0, c), (0, d), (0, e), (0, v30), (9, 0)]) [true, true, true, true, true, true, true, false] rfl ?_
                  exact ih18 v30 σ29 (by omega) (fun k_ j_ h_ => by rw [eσ29, dk_up_n (show ¬ (k_ = 142 ∧ j_ = v23) from fun q_ => h_ (q_.1)), hF18 k_ j_ (fun w_ => h_ (w_))]) (by omega)
              · skip
                refine dk_iload_n (pc' := 54) hE dX11_feed_53 rfl rfl rfl ?_
                refine dk_goto (tgt := 71) hE dX11_feed_54 (by decide) ?_
                refine dk_istore (pc' := 73) (ls' := [(4, 141), (0, a), (0, b), (0, c), (0, d), (0, e), (0, i), (0, c)]) hE dX11_feed_71 rfl (by decide) rfl ?_
                refine dk_aload_n (pc' := 74) hE dX11_feed_73 rfl rfl rfl ?_
                refine gf_11_0 (pc' := 77) (w := 142) hE fl_X11_7 dX11_feed_74 is_141 rfl rfl ?_
                refine dk_aload_n (pc' := 78) hE dX11_feed_77 rfl rfl rfl ?_
                refine gf_11_2 (pc' := 81) hE fl_X11_260 dX11_feed_78 is_141 rfl (fun v31 hv31 htv31 hbv31 => ?_)
                have hq31 : v1 = v31 := (show v31 = v1 by rw [hv31, hF18 141 2 (by omega), hv1]).symm
                subst hq31
                clear htv31 hbv31
                refine dk_iload (pc' := 83) hE dX11_feed_81 rfl rfl ?_
                obtain ⟨v32, hv32⟩ : ∃ z : Int, z = v1 + i := ⟨_, rfl⟩
                refine dk_iadd (pc' := 84) hE dX11_feed_83 hv32.symm (by omega) rfl ?_
                refine dk_iload (pc' := 86) hE dX11_feed_84 rfl rfl ?_
                refine dk_bipush (pc' := 88) hE dX11_feed_86 (by decide) rfl ?_
                refine dk_bipush (pc' := 90) hE dX11_feed_88 (by decide) rfl ?_
                refine dk_iload (pc' := 92) hE dX11_feed_90 rfl rfl ?_
                refine dk_iconst (pc' := 93) hE dX11_feed_92 (by decide) rfl ?_
                refine dk_iand (pc' := 94) hE dX11_feed_93 rfl (fun v33 hv33 ev33 => ?_)
                refine dk_imulW (pc' := 95) hE dX11_feed_94 rfl (fun v34 hv34 _ => ?_)
                refine dk_isubW (pc' := 96) hE dX11_feed_95 rfl (fun v35 hv35 _ => ?_)
                refine dk_ishr (pc' := 97) hE dX11_feed_96 rfl (fun v36 hv36 ev36 => ?_)
                refine dk_i2b (pc' := 98) hE dX11_feed_97 rfl (fun v37 hv37 ev37 => ?_)
                have hbv37 := dk_b_in ev37
                refine pa_70 (pc' := 99) hE dX11_feed_98 is_142 (by omega) (by omega) trivial rfl (fun σ38 eσ38 => ?_)
                obtain ⟨v39, hv39⟩ : ∃ z : Int, z = i + 1 := ⟨_, rfl⟩
                refine dk_iinc (pc' := 102) (ls' := [(4, 141), (0, a), (0, b), (0, c), (0, d), (0, e), (0, v39), (0, c)]) hE dX11_feed_99 rfl hv39.symm (by omega) rfl (by decide) rfl ?_
                refine dk_goto (tgt := 18) hE dX11_feed_102 (by decide) ?_
                refine dk_drop (ls' := [(4, 141), (0, a), (0, b), (0, c), (0, d), (0, e), (0, v39), (9, 0)]) [true, true, true, true, true, true, true, false] rfl ?_
                exact ih18 v39 σ38 (by omega) (fun k_ j_ h_ => by rw [eσ38, dk_up_n (show ¬ (k_ = 142 ∧ j_ = v32) from fun q_ => h_ (q_.1)), hF18 k_ j_ (fun w_ => h_ (w_))]) (by omega)
            · skip
              refine dk_iload_n (pc' := 43) hE dX11_feed_42 rfl rfl rfl ?_
              refine dk_goto (tgt := 71) hE dX11_feed_43 (by decide) ?_
              refine dk_istore (pc' := 73) (ls' := [(4, 141), (0, a), (0, b), (0, c), (0, d), (0, e), (0, i), (0, b)]) hE dX11_feed_71 rfl (by decide) rfl ?_
              refine dk_aload_n (pc' := 74) hE dX11_feed_73 rfl rfl rfl ?_
              refine gf_11_0 (pc' := 77) (w := 142) hE fl_X11_7 dX11_feed_74 is_141 rfl rfl ?_
              refine dk_aload_n (pc' := 78) hE dX11_feed_77 rfl rfl rfl ?_
              refine gf_11_2 (pc' := 81) hE fl_X11_260 dX11_feed_78 is_141 rfl (fun v40 hv40 htv40 hbv40 => ?_)
              have hq40 : v1 = v40 := (show v40 = v1 by rw [hv40, hF18 141 2 (by omega), hv1]).symm
              subst hq40
              clear htv40 hbv40
              refine dk_iload (pc' := 83) hE dX11_feed_81 rfl rfl ?_
              obtain ⟨v41, hv41⟩ : ∃ z : Int, z = v1 + i := ⟨_, rfl⟩
              refine dk_iadd (pc' := 84) hE dX11_feed_83 hv41.symm (by omega) rfl ?_
              refine dk_iload (pc' := 86) hE dX11_feed_84 rfl rfl ?_
              refine dk_bipush (pc' := 88) hE dX11_feed_86 (by decide) rfl ?_
              refine dk_bipush (pc' := 90) hE dX11_feed_88 (by decide) rfl ?_
              refine dk_iload (pc' := 92) hE dX11_feed_90 rfl rfl ?_
              refine dk_iconst (pc' := 93) hE dX11_feed_92 (by decide) rfl ?_
              refine dk_iand (pc' := 94) hE dX11_feed_93 rfl (fun v42 hv42 ev42 => ?_)
              refine dk_imulW (pc' := 95) hE dX11_feed_94 rfl (fun v43 hv43 _ => ?_)
              refine dk_isubW (pc' := 96) hE dX11_feed_95 rfl (fun v44 hv44 _ => ?_)
              refine dk_ishr (pc' := 97) hE dX11_feed_96 rfl (fun v45 hv45 ev45 => ?_)
              refine dk_i2b (pc' := 98) hE dX11_feed_97 rfl (fun v46 hv46 ev46 => ?_)
              have hbv46 := dk_b_in ev46
              refine pa_70 (pc' := 99) hE dX11_feed_98 is_142 (by omega) (by omega) trivial rfl (fun σ47 eσ47 => ?_)
              obtain ⟨v48, hv48⟩ : ∃ z : Int, z = i + 1 := ⟨_, rfl⟩
              refine dk_iinc (pc' := 102) (ls' := [(4, 141), (0, a), (0, b), (0, c), (0, d), (0, e), (0, v48), (0, b)]) hE dX11_feed_99 rfl hv48.symm (by omega) rfl (by decide) rfl ?_
              refine dk_goto (tgt := 18) hE dX11_feed_102 (by decide) ?_
              refine dk_drop (ls' := [(4, 141), (0, a), (0, b), (0, c), (0, d), (0, e), (0, v48), (9, 0)]) [true, true, true, true, true, true, true, false] rfl ?_
              exact ih18 v48 σ47 (by omega) (fun k_ j_ h_ => by rw [eσ47, dk_up_n (show ¬ (k_ = 142 ∧ j_ = v41) from fun q_ => h_ (q_.1)), hF18 k_ j_ (fun w_ => h_ (w_))]) (by omega)
          · skip
            refine dk_iload_n (pc' := 32) hE dX11_feed_31 rfl rfl rfl ?_
            refine dk_goto (tgt := 71) hE dX11_feed_32 (by decide) ?_
            refine dk_istore (pc' := 73) (ls' := [(4, 141), (0, a), (0, b), (0, c), (0, d), (0, e), (0, i), (0, a)]) hE dX11_feed_71 rfl (by decide) rfl ?_
            refine dk_aload_n (pc' := 74) hE dX11_feed_73 rfl rfl rfl ?_
            refine gf_11_0 (pc' := 77) (w := 142) hE fl_X11_7 dX11_feed_74 is_141 rfl rfl ?_
            refine dk_aload_n (pc' := 78) hE dX11_feed_77 rfl rfl rfl ?_
            refine gf_11_2 (pc' := 81) hE fl_X11_260 dX11_feed_78 is_141 rfl (fun v49 hv49 htv49 hbv49 => ?_)
            have hq49 : v1 = v49 := (show v49 = v1 by rw [hv49, hF18 141 2 (by omega), hv1]).symm
            subst hq49
            clear htv49 hbv49
            refine dk_iload (pc' := 83) hE dX11_feed_81 rfl rfl ?_
            obtain ⟨v50, hv50⟩ : ∃ z : Int, z = v1 + i := ⟨_, rfl⟩
            refine dk_iadd (pc' := 84) hE dX11_feed_83 hv50.symm (by omega) rfl ?_
            refine dk_iload (pc' := 86) hE dX11_feed_84 rfl rfl ?_
            refine dk_bipush (pc' := 88) hE dX11_feed_86 (by decide) rfl ?_
            refine dk_bipush (pc' := 90) hE dX11_feed_88 (by decide) rfl ?_
            refine dk_iload (pc' := 92) hE dX11_feed_90 rfl rfl ?_
            refine dk_iconst (pc' := 93) hE dX11_feed_92 (by decide) rfl ?_
            refine dk_iand (pc' := 94) hE dX11_feed_93 rfl (fun v51 hv51 ev51 => ?_)
            refine dk_imulW (pc' := 95) hE dX11_feed_94 rfl (fun v52 hv52 _ => ?_)
            refine dk_isubW (pc' := 96) hE dX11_feed_95 rfl (fun v53 hv53 _ => ?_)
            refine dk_ishr (pc' := 97) hE dX11_feed_96 rfl (fun v54 hv54 ev54 => ?_)
            refine dk_i2b (pc' := 98) hE dX11_feed_97 rfl (fun v55 hv55 ev55 => ?_)
            have hbv55 := dk_b_in ev55
            refine pa_70 (pc' := 99) hE dX11_feed_98 is_142 (by omega) (by omega) trivial rfl (fun σ56 eσ56 => ?_)
            obtain ⟨v57, hv57⟩ : ∃ z : Int, z = i + 1 := ⟨_, rfl⟩
            refine dk_iinc (pc' := 102) (ls' := [(4, 141), (0, a), (0, b), (0, c), (0, d), (0, e), (0, v57), (0, a)]) hE dX11_feed_99 rfl hv57.symm (by omega) rfl (by decide) rfl ?_
            refine dk_goto (tgt := 18) hE dX11_feed_102 (by decide) ?_
            refine dk_drop (ls' := [(4, 141), (0, a), (0, b), (0, c), (0, d), (0, e), (0, v57), (9, 0)]) [true, true, true, true, true, true, true, false] rfl ?_
            exact ih18 v57 σ56 (by omega) (fun k_ j_ h_ => by rw [eσ56, dk_up_n (show ¬ (k_ = 142 ∧ j_ = v50) from fun q_ => h_ (q_.1)), hF18 k_ j_ (fun w_ => h_ (w_))]) (by omega)
    exact lp18 _ 0 σ (Nat.lt_succ_self _) (fun k_ j_ h_ => rfl) (by omega)
  · skip
    refine dk_iconst (pc' := 14) hE dX11_feed_13 (by decide) rfl ?_
    exact dk_iret (st := []) hE hR dX11_feed_14 ⟨_, rfl, (fun k_ j_ h_ => rfl), trivial⟩
