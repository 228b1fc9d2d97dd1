theorem ins_all (a b : St) (h : Rel a b) (w : Int32) : Per (f_S_perform_b30 w (bg a)) (rd b w) := by
  obtain ⟨n, hn, ho⟩ := ord_nI w
  have hd : n = 0 ∨ n = 1 ∨ n = 2 ∨ n = 3 ∨ n = 4 ∨ n = 5 ∨ n = 6 ∨ n = 7 ∨ n = 8 ∨ n = 9 ∨ n = 10 ∨ n = 11 ∨ n = 12 ∨ n = 13 ∨ n = 14 ∨ n = 15 ∨ n = 16 ∨ n = 17 ∨ n = 18 ∨ n = 19 ∨ n = 20 ∨ n = 21 ∨ n = 22 ∨ n = 23 ∨ n = 24 ∨ n = 25 ∨ n = 26 ∨ n = 27 ∨ n = 28 ∨ n = 29 ∨ n = 30 ∨ n = 31 ∨ n = 32 ∨ n = 33 ∨ n = 34 ∨ n = 35 ∨ n = 36 ∨ n = 37 ∨ n = 38 ∨ n = 39 ∨ n = 40 ∨ n = 41 ∨ n = 42 ∨ n = 43 ∨ n = 44 ∨ n = 45 ∨ n = 46 ∨ n = 47 ∨ n = 48 ∨ n = 49 ∨ n = 50 ∨ n = 51 ∨ n = 52 ∨ n = 53 ∨ n = 54 ∨ n = 55 ∨ n = 56 ∨ n = 57 ∨ n = 58 ∨ n = 59 ∨ n = 60 ∨ n = 61 ∨ n = 62 ∨ n = 63 := by omega
  rcases hd with rfl | rfl | rfl | rfl | rfl | rfl | rfl | rfl | rfl | rfl | rfl | rfl | rfl | rfl | rfl | rfl | rfl | rfl | rfl | rfl | rfl | rfl | rfl | rfl | rfl | rfl | rfl | rfl | rfl | rfl | rfl | rfl | rfl | rfl | rfl | rfl | rfl | rfl | rfl | rfl | rfl | rfl | rfl | rfl | rfl | rfl | rfl | rfl | rfl | rfl | rfl | rfl | rfl | rfl | rfl | rfl | rfl | rfl | rfl | rfl | rfl | rfl | rfl | rfl
  · exact ins_0 a b h w ho
  · exact ins_1 a b h w ho
  · exact ins_2 a b h w ho
  · exact ins_3 a b h w ho
  · exact ins_4 a b h w ho
  · exact ins_5 a b h w ho
  · exact ins_6 a b h w ho
  · exact ins_7 a b h w ho
  · exact ins_8 a b h w ho
  · exact ins_9 a b h w ho
  · exact ins_10 a b h w ho
  · exact ins_11 a b h w ho
  · exact ins_12 a b h w ho
  · exact ins_13 a b h w ho
  · exact ins_14 a b h w ho
  · exact ins_15 a b h w ho
  · exact ins_16 a b h w ho
  · exact ins_17 a b h w ho
  · exact ins_18 a b h w ho
  · exact ins_19 a b h w ho
  · exact ins_20 a b h w ho
  · exact ins_21 a b h w ho
  · exact ins_22 a b h w ho
  · exact ins_23 a b h w ho
  · exact ins_24 a b h w ho
  · exact ins_25 a b h w ho
  · exact ins_26 a b h w ho
  · exact ins_27 a b h w ho
  · exact ins_28 a b h w ho
  · exact ins_29 a b h w ho
  · exact ins_30 a b h w ho
  · exact ins_31 a b h w ho
  · exact ins_32 a b h w ho
  · exact ins_33 a b h w ho
  · exact ins_34 a b h w ho
  · exact ins_35 a b h w ho
  · exact ins_36 a b h w ho
  · exact ins_37 a b h w ho
  · exact ins_38 a b h w ho
  · exact ins_39 a b h w ho
  · exact ins_40 a b h w ho
  · exact ins_41 a b h w ho
  · exact ins_42 a b h w ho
  · exact ins_43 a b h w ho
  · exact ins_44 a b h w ho
  · exact ins_45 a b h w ho
  · exact ins_46 a b h w ho
  · exact ins_47 a b h w ho
  · exact ins_48 a b h w ho
  · exact ins_49 a b h w ho
  · exact ins_50 a b h w ho
  · exact ins_51 a b h w ho
  · exact ins_52 a b h w ho
  · exact ins_53 a b h w ho
  · exact ins_54 a b h w ho
  · exact ins_55 a b h w ho
  · exact ins_56 a b h w ho
  · exact ins_57 a b h w ho
  · exact ins_58 a b h w ho
  · exact ins_59 a b h w ho
  · exact ins_60 a b h w ho
  · exact ins_61 a b h w ho
  · exact ins_62 a b h w ho
  · exact ins_63 a b h w ho
theorem e_ins (a b : St) (h : Rel a b) (w : Int32) : (∃ r a' b', ftl r ∧ f_S_perform w a = (r, a') ∧ f_D_trouble (rd b w) = (r, b') ∧ Rel a' b') ∨ (∃ a' b', f_S_perform w a = ((-1 : Int32), a') ∧ f_D_trouble (rd b w) = ((0 : Int32), rd b w) ∧ f_D_act (rd b w) = some b' ∧ Fin a' b') := by
  have hR := rel_bg a b w h
  have hs := hR.1.2.2.1
  have hP := ins_all a b h w
  have hB : f_D_isBranch (rd b w) = f_S_isBranch w := by rw [isB_eq, rd_17, rd_18, rd_21, isBr_eq]
  have e1 : f_S_perform w a = (if (zb (bg a 0 6)) = (0 : Int32) then f_S_perform_b30 w (bg a) else if (zb (f_S_isBranch w)) = (0 : Int32) then f_S_perform_b30 w (bg a) else ((10 : Int32), bg a)) := rfl
  have e2 : f_D_trouble (rd b w) = (if (zb (f_D_isKnown (rd b w))) = (0 : Int32) then ((10 : Int32), rd b w) else if (zb (rd b w 0 12)) = (0 : Int32) then f_D_trouble_b24 (rd b w) else if (zb (f_D_isBranch (rd b w))) = (0 : Int32) then f_D_trouble_b24 (rd b w) else ((10 : Int32), rd b w)) := rfl
  have e3 : trb (rd b w) = (if (zb (f_D_isKnown (rd b w))) = (0 : Int32) then ((10 : Int32), rd b w) else f_D_trouble_b24 (rd b w)) := rfl
  rw [e1, e2, hs, hB]
  unfold Per at hP
  rw [e3] at hP
  by_cases h1 : zb (rd b w 0 12) = 0
  · rw [if_pos h1, if_pos h1]
    exact hP
  · by_cases h2 : zb (f_S_isBranch w) = 0
    · rw [if_neg h1, if_pos h2, if_neg h1, if_pos h2]
      exact hP
    · left
      rw [if_neg h1, if_neg h2, if_neg h1, if_neg h2, ite_self]
      exact ⟨_, _, _, ⟨sm10, by decide, by decide, by decide, by decide⟩, rfl, rfl, hR⟩
theorem e_step (a b : St) (h : Rel a b) : ∃ r a' b', f_S_takeStep a = (r, a') ∧ f_D_oneStep b = some (r, b') ∧ Rel a' b' := by
  have hT := rel_tick a b h
  have hI := irq_eq _ _ hT
  have e5 : sU b 0 15 (b 0 15 + 1) 0 5 = b 0 5 := by simp only [sU_at]; simp
  rw [e5] at hI
  have e1 : f_S_takeStep a = (if (zb (f_C_interruptIsDue (sU a 0 7 (a 0 7 + 1)))) = (0 : Int32) then bnd (f_S_faultAtPc (sU a 0 7 (a 0 7 + 1))) (fun r28 u28 => if r28 = (-1 : Int32) then bnd (f_S_perform (f_M_wordAround ((u28 0 4) &&& (536870911 : Int32)) u28) u28) (fun r52 u52 => f_S_takeStep_b56 r52 u52) else f_S_takeStep_b56 r28 u28) else bnv (f_S_enterException (0 : Int32) (sU a 0 7 (a 0 7 + 1))) (fun u22 => ((2 : Int32), u22))) := rfl
  have e2 : f_D_oneStep b = (if ((b 0 5) &&& (1 : Int32)) = (1 : Int32) then if ((((f_D_cause (sU b 0 15 (b 0 15 + 1))) >>> ((8 : Int32) &&& 31)) &&& ((b 0 5) >>> ((8 : Int32) &&& 31))) &&& (255 : Int32)) = (0 : Int32) then f_D_oneStep_b49 (sU b 0 15 (b 0 15 + 1)) else obv (f_D_except (0 : Int32) (sU b 0 15 (b 0 15 + 1))) (fun u44 => some (((2 : Int32), u44))) else f_D_oneStep_b49 (sU b 0 15 (b 0 15 + 1))) := rfl
  rw [e1, e2]
  generalize sU a 0 7 (a 0 7 + 1) = A at *
  generalize sU b 0 15 (b 0 15 + 1) = B at *
  by_cases hq : (b 0 5) &&& (1 : Int32) = 1 ∧ ¬ (((f_D_cause B) >>> ((8 : Int32) &&& 31)) &&& ((b 0 5) >>> ((8 : Int32) &&& 31))) &&& (255 : Int32) = 0
  · have hz : ¬ zb (f_C_interruptIsDue A) = 0 := fun z => hI.mp z hq
    obtain ⟨b', hb', hR'⟩ := e_except A B 0 sm0 hT
    rw [if_neg hz, if_pos hq.1, if_neg hq.2, hb']
    exact ⟨_, _, _, rfl, rfl, hR'⟩
  · have hz : zb (f_C_interruptIsDue A) = 0 := hI.mpr hq
    have e3 : (if ((b 0 5) &&& (1 : Int32)) = (1 : Int32) then if ((((f_D_cause B) >>> ((8 : Int32) &&& 31)) &&& ((b 0 5) >>> ((8 : Int32) &&& 31))) &&& (255 : Int32)) = (0 : Int32) then f_D_oneStep_b49 B else obv (f_D_except (0 : Int32) B) (fun u44 => some (((2 : Int32), u44))) else f_D_oneStep_b49 B) = f_D_oneStep_b49 B := by
      by_cases h1 : (b 0 5) &&& (1 : Int32) = 1
      · rw [if_pos h1]
        by_cases h2 : (((f_D_cause B) >>> ((8 : Int32) &&& 31)) &&& ((b 0 5) >>> ((8 : Int32) &&& 31))) &&& (255 : Int32) = 0
        · rw [if_pos h2]
        · exact absurd ⟨h1, h2⟩ hq
      · rw [if_neg h1]
    rw [if_pos hz, e3]
    have exc : ∀ r a' b', ftl r → Rel a' b' → ∃ b'', f_D_oneStep_b67 r b' = some ((1 : Int32), b'') ∧ Rel (f_S_enterException r a') b'' := by
      intro r a' b' hr hR'
      obtain ⟨b'', hb'', hR''⟩ := e_except a' b' r hr.1 hR'
      refine ⟨b'', ?_, hR''⟩
      unfold f_D_oneStep_b67
      rw [if_neg hr.2.2.2.2, hb'']
      rfl
    unfold f_D_oneStep_b49
    rcases e_fetch A B hT with ⟨f1, f2, p, hp, hp4, hpl⟩ | ⟨r, a', b', hr, f1, f2, f3⟩
    · rw [f1, f2]
      simp only [bnd, if_true]
      rw [hT.1.1, hpl, word_eq A B hT p hp hp4, e_read B p hp hpl]
      simp only [obv]
      generalize w4 (B 1) p = w
      rcases e_ins A B hT w with ⟨r, a', b', hr, g1, g2, g3⟩ | ⟨a', b', g1, g2, g3, b'', g4, g5⟩
      · rw [g1, g2]
        obtain ⟨b'', hb'', hR''⟩ := exc r a' b' hr g3
        dsimp only
        rw [hb'']
        unfold f_S_takeStep_b56
        rw [if_neg hr.2.2.1]
        exact ⟨_, _, _, rfl, rfl, hR''⟩
      · rw [g1, g2]
        dsimp only
        unfold f_S_takeStep_b56 f_D_oneStep_b67
        rw [if_pos rfl, if_pos (by decide), g3]
        refine ⟨_, _, _, rfl, ?_, g5⟩
        exact g4
    · rw [f1, f2]
      simp only [bnd]
      rw [if_neg hr.2.2.1, if_neg hr.2.2.2.1]
      obtain ⟨b'', hb'', hR''⟩ := exc r a' b' hr f3
      rw [hb'']
      unfold f_S_takeStep_b56
      rw [if_neg hr.2.2.1]
      exact ⟨_, _, _, rfl, rfl, hR''⟩
