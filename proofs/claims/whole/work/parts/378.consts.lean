section
variable {G : GL}
def q_sa (G : GL) (own : String) (ix : Nat) : Nat := match (Term.string own ix).eval #[] (q_0 G) none [] (q_0 G) with
  | some (.ref a) => a
  | _ => 0
theorem q_scof (h : q_Ok G) {own tx : String} {ix : Nat} {bs : List Nat} (b : Addr) (hr : (Cond.stringRef own ix tx).before #[Value.ref b] (q_0 G) = true) (hs : ∃ a : Nat, (Term.string own ix).eval #[Value.ref b] (q_0 G) none [] (q_0 G) = some (.ref a) ∧ q_st G a bs) : vk_R own ix tx (q_sa G own ix) (q_0 G) ∧ q_st G (q_sa G own ix) bs := by
  obtain ⟨a, h1, h2⟩ := hs
  have h3 := vk_R.of hr h1
  have e : q_sa G own ix = a := by unfold q_sa; rw [h3.2]
  rw [e]
  exact ⟨h3, h2⟩
theorem q_b128 {bs : List Nat} (h : (bs.all fun x => decide (x < 128)) = true) : ∀ j : Nat, bs.getD j 0 < 128 := by
  intro j
  rw [List.getD_eq_getElem?_getD]
  cases e : bs[j]? with
  | none => exact (by decide : 0 < 128)
  | some x =>
    have := List.all_eq_true.mp h x (List.mem_of_getElem? e)
    simpa using this
def q_fl0 : List Cond := flatC (Jvm.Cond.and given_1 narrow_1)
theorem q_giv2 (h : q_Ok G) : ∃ b : Addr, (∀ w ∈ lw_tbl, w.before #[Value.ref b] (q_0 G) = true) ∧ ∀ (i : Nat) (c : Cond), q_fl0[i]? = some c → c.before #[Value.ref b] (q_0 G) = true := by
  obtain ⟨b, hw, hg⟩ := q_giv h
  exact ⟨b, hw, fun i c e => hg c (List.mem_of_getElem? e)⟩
theorem sc_RX10_433 (h : q_Ok G) : vk_R RX10 433 "rule " (q_sa G RX10 433) (q_0 G) ∧ q_st G (q_sa G RX10 433) [114, 117, 108, 101, 32] := by
  obtain ⟨b, hw, hg⟩ := q_giv2 h
  refine q_scof h b (hw _ (q_mt 1364 (by decide +kernel))) (q_stof h b (by decide) (q_b128 (by decide)) (hg 616 _ (by decide +kernel)) (hg 617 _ (by decide +kernel)) (hg 618 _ (by decide +kernel)) (hg 619 _ (by decide +kernel)) (fun j hj => ?_))
  match j, hj with
  | 0, _ => exact hg 620 _ (by decide +kernel)
  | 1, _ => exact hg 621 _ (by decide +kernel)
  | 2, _ => exact hg 622 _ (by decide +kernel)
  | 3, _ => exact hg 623 _ (by decide +kernel)
  | 4, _ => exact hg 624 _ (by decide +kernel)
  | k + 5, h9 => exact absurd h9 (by simp)
theorem sc_RX10_438 (h : q_Ok G) : vk_R RX10 438 " only" (q_sa G RX10 438) (q_0 G) ∧ q_st G (q_sa G RX10 438) [32, 111, 110, 108, 121] := by
  obtain ⟨b, hw, hg⟩ := q_giv2 h
  refine q_scof h b (hw _ (q_mt 1371 (by decide +kernel))) (q_stof h b (by decide) (q_b128 (by decide)) (hg 625 _ (by decide +kernel)) (hg 626 _ (by decide +kernel)) (hg 627 _ (by decide +kernel)) (hg 628 _ (by decide +kernel)) (fun j hj => ?_))
  match j, hj with
  | 0, _ => exact hg 629 _ (by decide +kernel)
  | 1, _ => exact hg 630 _ (by decide +kernel)
  | 2, _ => exact hg 631 _ (by decide +kernel)
  | 3, _ => exact hg 632 _ (by decide +kernel)
  | 4, _ => exact hg 633 _ (by decide +kernel)
  | k + 5, h9 => exact absurd h9 (by simp)
theorem sc_RX10_446 (h : q_Ok G) : vk_R RX10 446 " slack" (q_sa G RX10 446) (q_0 G) ∧ q_st G (q_sa G RX10 446) [32, 115, 108, 97, 99, 107] := by
  obtain ⟨b, hw, hg⟩ := q_giv2 h
  refine q_scof h b (hw _ (q_mt 1378 (by decide +kernel))) (q_stof h b (by decide) (q_b128 (by decide)) (hg 634 _ (by decide +kernel)) (hg 635 _ (by decide +kernel)) (hg 636 _ (by decide +kernel)) (hg 637 _ (by decide +kernel)) (fun j hj => ?_))
  match j, hj with
  | 0, _ => exact hg 638 _ (by decide +kernel)
  | 1, _ => exact hg 639 _ (by decide +kernel)
  | 2, _ => exact hg 640 _ (by decide +kernel)
  | 3, _ => exact hg 641 _ (by decide +kernel)
  | 4, _ => exact hg 642 _ (by decide +kernel)
  | 5, _ => exact hg 643 _ (by decide +kernel)
  | k + 6, h9 => exact absurd h9 (by simp)
theorem sc_RX10_448 (h : q_Ok G) : vk_R RX10 448 " most" (q_sa G RX10 448) (q_0 G) ∧ q_st G (q_sa G RX10 448) [32, 109, 111, 115, 116] := by
  obtain ⟨b, hw, hg⟩ := q_giv2 h
  refine q_scof h b (hw _ (q_mt 1379 (by decide +kernel))) (q_stof h b (by decide) (q_b128 (by decide)) (hg 644 _ (by decide +kernel)) (hg 645 _ (by decide +kernel)) (hg 646 _ (by decide +kernel)) (hg 647 _ (by decide +kernel)) (fun j hj => ?_))
  match j, hj with
  | 0, _ => exact hg 648 _ (by decide +kernel)
  | 1, _ => exact hg 649 _ (by decide +kernel)
  | 2, _ => exact hg 650 _ (by decide +kernel)
  | 3, _ => exact hg 651 _ (by decide +kernel)
  | 4, _ => exact hg 652 _ (by decide +kernel)
  | k + 5, h9 => exact absurd h9 (by simp)
theorem sc_RX10_450 (h : q_Ok G) : vk_R RX10 450 " bar" (q_sa G RX10 450) (q_0 G) ∧ q_st G (q_sa G RX10 450) [32, 98, 97, 114] := by
  obtain ⟨b, hw, hg⟩ := q_giv2 h
  refine q_scof h b (hw _ (q_mt 1380 (by decide +kernel))) (q_stof h b (by decide) (q_b128 (by decide)) (hg 653 _ (by decide +kernel)) (hg 654 _ (by decide +kernel)) (hg 655 _ (by decide +kernel)) (hg 656 _ (by decide +kernel)) (fun j hj => ?_))
  match j, hj with
  | 0, _ => exact hg 657 _ (by decide +kernel)
  | 1, _ => exact hg 658 _ (by decide +kernel)
  | 2, _ => exact hg 659 _ (by decide +kernel)
  | 3, _ => exact hg 660 _ (by decide +kernel)
  | k + 4, h9 => exact absurd h9 (by simp)
theorem sc_RX0_58 (h : q_Ok G) : vk_R RX0 58 "plain" (q_sa G RX0 58) (q_0 G) ∧ q_st G (q_sa G RX0 58) [112, 108, 97, 105, 110] := by
  obtain ⟨b, hw, hg⟩ := q_giv2 h
  refine q_scof h b (hw _ (q_mt 357 (by decide +kernel))) (q_stof h b (by decide) (q_b128 (by decide)) (hg 167 _ (by decide +kernel)) (hg 168 _ (by decide +kernel)) (hg 169 _ (by decide +kernel)) (hg 170 _ (by decide +kernel)) (fun j hj => ?_))
  match j, hj with
  | 0, _ => exact hg 171 _ (by decide +kernel)
  | 1, _ => exact hg 172 _ (by decide +kernel)
  | 2, _ => exact hg 173 _ (by decide +kernel)
  | 3, _ => exact hg 174 _ (by decide +kernel)
  | 4, _ => exact hg 175 _ (by decide +kernel)
  | k + 5, h9 => exact absurd h9 (by simp)
theorem sc_RX3_46 (h : q_Ok G) : vk_R RX3 46 "rule" (q_sa G RX3 46) (q_0 G) ∧ q_st G (q_sa G RX3 46) [114, 117, 108, 101] := by
  obtain ⟨b, hw, hg⟩ := q_giv2 h
  refine q_scof h b (hw _ (q_mt 520 (by decide +kernel))) (q_stof h b (by decide) (q_b128 (by decide)) (hg 176 _ (by decide +kernel)) (hg 177 _ (by decide +kernel)) (hg 178 _ (by decide +kernel)) (hg 179 _ (by decide +kernel)) (fun j hj => ?_))
  match j, hj with
  | 0, _ => exact hg 180 _ (by decide +kernel)
  | 1, _ => exact hg 181 _ (by decide +kernel)
  | 2, _ => exact hg 182 _ (by decide +kernel)
  | 3, _ => exact hg 183 _ (by decide +kernel)
  | k + 4, h9 => exact absurd h9 (by simp)
theorem sc_RX3_56 (h : q_Ok G) : vk_R RX3 56 "board" (q_sa G RX3 56) (q_0 G) ∧ q_st G (q_sa G RX3 56) [98, 111, 97, 114, 100] := by
  obtain ⟨b, hw, hg⟩ := q_giv2 h
  refine q_scof h b (hw _ (q_mt 599 (by decide +kernel))) (q_stof h b (by decide) (q_b128 (by decide)) (hg 216 _ (by decide +kernel)) (hg 217 _ (by decide +kernel)) (hg 218 _ (by decide +kernel)) (hg 219 _ (by decide +kernel)) (fun j hj => ?_))
  match j, hj with
  | 0, _ => exact hg 220 _ (by decide +kernel)
  | 1, _ => exact hg 221 _ (by decide +kernel)
  | 2, _ => exact hg 222 _ (by decide +kernel)
  | 3, _ => exact hg 223 _ (by decide +kernel)
  | 4, _ => exact hg 224 _ (by decide +kernel)
  | k + 5, h9 => exact absurd h9 (by simp)
theorem sc_RX3_61 (h : q_Ok G) : vk_R RX3 61 "stick" (q_sa G RX3 61) (q_0 G) ∧ q_st G (q_sa G RX3 61) [115, 116, 105, 99, 107] := by
  obtain ⟨b, hw, hg⟩ := q_giv2 h
  refine q_scof h b (hw _ (q_mt 605 (by decide +kernel))) (q_stof h b (by decide) (q_b128 (by decide)) (hg 225 _ (by decide +kernel)) (hg 226 _ (by decide +kernel)) (hg 227 _ (by decide +kernel)) (hg 228 _ (by decide +kernel)) (fun j hj => ?_))
  match j, hj with
  | 0, _ => exact hg 229 _ (by decide +kernel)
  | 1, _ => exact hg 230 _ (by decide +kernel)
  | 2, _ => exact hg 231 _ (by decide +kernel)
  | 3, _ => exact hg 232 _ (by decide +kernel)
  | 4, _ => exact hg 233 _ (by decide +kernel)
  | k + 5, h9 => exact absurd h9 (by simp)
theorem sc_RX3_66 (h : q_Ok G) : vk_R RX3 66 "first" (q_sa G RX3 66) (q_0 G) ∧ q_st G (q_sa G RX3 66) [102, 105, 114, 115, 116] := by
  obtain ⟨b, hw, hg⟩ := q_giv2 h
  refine q_scof h b (hw _ (q_mt 614 (by decide +kernel))) (q_stof h b (by decide) (q_b128 (by decide)) (hg 234 _ (by decide +kernel)) (hg 235 _ (by decide +kernel)) (hg 236 _ (by decide +kernel)) (hg 237 _ (by decide +kernel)) (fun j hj => ?_))
  match j, hj with
  | 0, _ => exact hg 238 _ (by decide +kernel)
  | 1, _ => exact hg 239 _ (by decide +kernel)
  | 2, _ => exact hg 240 _ (by decide +kernel)
  | 3, _ => exact hg 241 _ (by decide +kernel)
  | 4, _ => exact hg 242 _ (by decide +kernel)
  | k + 5, h9 => exact absurd h9 (by simp)
theorem sc_RX3_115 (h : q_Ok G) : vk_R RX3 115 "only" (q_sa G RX3 115) (q_0 G) ∧ q_st G (q_sa G RX3 115) [111, 110, 108, 121] := by
  obtain ⟨b, hw, hg⟩ := q_giv2 h
  refine q_scof h b (hw _ (q_mt 551 (by decide +kernel))) (q_stof h b (by decide) (q_b128 (by decide)) (hg 184 _ (by decide +kernel)) (hg 185 _ (by decide +kernel)) (hg 186 _ (by decide +kernel)) (hg 187 _ (by decide +kernel)) (fun j hj => ?_))
  match j, hj with
  | 0, _ => exact hg 188 _ (by decide +kernel)
  | 1, _ => exact hg 189 _ (by decide +kernel)
  | 2, _ => exact hg 190 _ (by decide +kernel)
  | 3, _ => exact hg 191 _ (by decide +kernel)
  | k + 4, h9 => exact absurd h9 (by simp)
theorem sc_RX3_137 (h : q_Ok G) : vk_R RX3 137 "slack" (q_sa G RX3 137) (q_0 G) ∧ q_st G (q_sa G RX3 137) [115, 108, 97, 99, 107] := by
  obtain ⟨b, hw, hg⟩ := q_giv2 h
  refine q_scof h b (hw _ (q_mt 572 (by decide +kernel))) (q_stof h b (by decide) (q_b128 (by decide)) (hg 192 _ (by decide +kernel)) (hg 193 _ (by decide +kernel)) (hg 194 _ (by decide +kernel)) (hg 195 _ (by decide +kernel)) (fun j hj => ?_))
  match j, hj with
  | 0, _ => exact hg 196 _ (by decide +kernel)
  | 1, _ => exact hg 197 _ (by decide +kernel)
  | 2, _ => exact hg 198 _ (by decide +kernel)
  | 3, _ => exact hg 199 _ (by decide +kernel)
  | 4, _ => exact hg 200 _ (by decide +kernel)
  | k + 5, h9 => exact absurd h9 (by simp)
theorem sc_RX3_145 (h : q_Ok G) : vk_R RX3 145 "most" (q_sa G RX3 145) (q_0 G) ∧ q_st G (q_sa G RX3 145) [109, 111, 115, 116] := by
  obtain ⟨b, hw, hg⟩ := q_giv2 h
  refine q_scof h b (hw _ (q_mt 581 (by decide +kernel))) (q_stof h b (by decide) (q_b128 (by decide)) (hg 201 _ (by decide +kernel)) (hg 202 _ (by decide +kernel)) (hg 203 _ (by decide +kernel)) (hg 204 _ (by decide +kernel)) (fun j hj => ?_))
  match j, hj with
  | 0, _ => exact hg 205 _ (by decide +kernel)
  | 1, _ => exact hg 206 _ (by decide +kernel)
  | 2, _ => exact hg 207 _ (by decide +kernel)
  | 3, _ => exact hg 208 _ (by decide +kernel)
  | k + 4, h9 => exact absurd h9 (by simp)
theorem sc_RX3_149 (h : q_Ok G) : vk_R RX3 149 "bar" (q_sa G RX3 149) (q_0 G) ∧ q_st G (q_sa G RX3 149) [98, 97, 114] := by
  obtain ⟨b, hw, hg⟩ := q_giv2 h
  refine q_scof h b (hw _ (q_mt 586 (by decide +kernel))) (q_stof h b (by decide) (q_b128 (by decide)) (hg 209 _ (by decide +kernel)) (hg 210 _ (by decide +kernel)) (hg 211 _ (by decide +kernel)) (hg 212 _ (by decide +kernel)) (fun j hj => ?_))
  match j, hj with
  | 0, _ => exact hg 213 _ (by decide +kernel)
  | 1, _ => exact hg 214 _ (by decide +kernel)
  | 2, _ => exact hg 215 _ (by decide +kernel)
  | k + 3, h9 => exact absurd h9 (by simp)
theorem sc_RX11_310 (h : q_Ok G) : vk_R RX11 310 "only" (q_sa G RX11 310) (q_0 G) ∧ q_st G (q_sa G RX11 310) [111, 110, 108, 121] := by
  obtain ⟨b, hw, hg⟩ := q_giv2 h
  refine q_scof h b (hw _ (q_mt 1602 (by decide +kernel))) (q_stof h b (by decide) (q_b128 (by decide)) (hg 695 _ (by decide +kernel)) (hg 696 _ (by decide +kernel)) (hg 697 _ (by decide +kernel)) (hg 698 _ (by decide +kernel)) (fun j hj => ?_))
  match j, hj with
  | 0, _ => exact hg 699 _ (by decide +kernel)
  | 1, _ => exact hg 700 _ (by decide +kernel)
  | 2, _ => exact hg 701 _ (by decide +kernel)
  | 3, _ => exact hg 702 _ (by decide +kernel)
  | k + 4, h9 => exact absurd h9 (by simp)
theorem sc_RX11_337 (h : q_Ok G) : vk_R RX11 337 "slack" (q_sa G RX11 337) (q_0 G) ∧ q_st G (q_sa G RX11 337) [115, 108, 97, 99, 107] := by
  obtain ⟨b, hw, hg⟩ := q_giv2 h
  refine q_scof h b (hw _ (q_mt 1623 (by decide +kernel))) (q_stof h b (by decide) (q_b128 (by decide)) (hg 704 _ (by decide +kernel)) (hg 705 _ (by decide +kernel)) (hg 706 _ (by decide +kernel)) (hg 707 _ (by decide +kernel)) (fun j hj => ?_))
  match j, hj with
  | 0, _ => exact hg 708 _ (by decide +kernel)
  | 1, _ => exact hg 709 _ (by decide +kernel)
  | 2, _ => exact hg 710 _ (by decide +kernel)
  | 3, _ => exact hg 711 _ (by decide +kernel)
  | 4, _ => exact hg 712 _ (by decide +kernel)
  | k + 5, h9 => exact absurd h9 (by simp)
theorem sc_RX11_343 (h : q_Ok G) : vk_R RX11 343 "most" (q_sa G RX11 343) (q_0 G) ∧ q_st G (q_sa G RX11 343) [109, 111, 115, 116] := by
  obtain ⟨b, hw, hg⟩ := q_giv2 h
  refine q_scof h b (hw _ (q_mt 1632 (by decide +kernel))) (q_stof h b (by decide) (q_b128 (by decide)) (hg 714 _ (by decide +kernel)) (hg 715 _ (by decide +kernel)) (hg 716 _ (by decide +kernel)) (hg 717 _ (by decide +kernel)) (fun j hj => ?_))
  match j, hj with
  | 0, _ => exact hg 718 _ (by decide +kernel)
  | 1, _ => exact hg 719 _ (by decide +kernel)
  | 2, _ => exact hg 720 _ (by decide +kernel)
  | 3, _ => exact hg 721 _ (by decide +kernel)
  | k + 4, h9 => exact absurd h9 (by simp)
theorem sc_RX11_345 (h : q_Ok G) : vk_R RX11 345 "bar" (q_sa G RX11 345) (q_0 G) ∧ q_st G (q_sa G RX11 345) [98, 97, 114] := by
  obtain ⟨b, hw, hg⟩ := q_giv2 h
  refine q_scof h b (hw _ (q_mt 1633 (by decide +kernel))) (q_stof h b (by decide) (q_b128 (by decide)) (hg 723 _ (by decide +kernel)) (hg 724 _ (by decide +kernel)) (hg 725 _ (by decide +kernel)) (hg 726 _ (by decide +kernel)) (fun j hj => ?_))
  match j, hj with
  | 0, _ => exact hg 727 _ (by decide +kernel)
  | 1, _ => exact hg 728 _ (by decide +kernel)
  | 2, _ => exact hg 729 _ (by decide +kernel)
  | k + 3, h9 => exact absurd h9 (by simp)
theorem sc_RX11_357 (h : q_Ok G) : vk_R RX11 357 "rule" (q_sa G RX11 357) (q_0 G) ∧ q_st G (q_sa G RX11 357) [114, 117, 108, 101] := by
  obtain ⟨b, hw, hg⟩ := q_giv2 h
  refine q_scof h b (hw _ (q_mt 1567 (by decide +kernel))) (q_stof h b (by decide) (q_b128 (by decide)) (hg 686 _ (by decide +kernel)) (hg 687 _ (by decide +kernel)) (hg 688 _ (by decide +kernel)) (hg 689 _ (by decide +kernel)) (fun j hj => ?_))
  match j, hj with
  | 0, _ => exact hg 690 _ (by decide +kernel)
  | 1, _ => exact hg 691 _ (by decide +kernel)
  | 2, _ => exact hg 692 _ (by decide +kernel)
  | 3, _ => exact hg 693 _ (by decide +kernel)
  | k + 4, h9 => exact absurd h9 (by simp)
theorem sc_RX11_362 (h : q_Ok G) : vk_R RX11 362 "board" (q_sa G RX11 362) (q_0 G) ∧ q_st G (q_sa G RX11 362) [98, 111, 97, 114, 100] := by
  obtain ⟨b, hw, hg⟩ := q_giv2 h
  refine q_scof h b (hw _ (q_mt 1646 (by decide +kernel))) (q_stof h b (by decide) (q_b128 (by decide)) (hg 731 _ (by decide +kernel)) (hg 732 _ (by decide +kernel)) (hg 733 _ (by decide +kernel)) (hg 734 _ (by decide +kernel)) (fun j hj => ?_))
  match j, hj with
  | 0, _ => exact hg 735 _ (by decide +kernel)
  | 1, _ => exact hg 736 _ (by decide +kernel)
  | 2, _ => exact hg 737 _ (by decide +kernel)
  | 3, _ => exact hg 738 _ (by decide +kernel)
  | 4, _ => exact hg 739 _ (by decide +kernel)
  | k + 5, h9 => exact absurd h9 (by simp)
theorem sc_RX11_367 (h : q_Ok G) : vk_R RX11 367 "stick" (q_sa G RX11 367) (q_0 G) ∧ q_st G (q_sa G RX11 367) [115, 116, 105, 99, 107] := by
  obtain ⟨b, hw, hg⟩ := q_giv2 h
  refine q_scof h b (hw _ (q_mt 1651 (by decide +kernel))) (q_stof h b (by decide) (q_b128 (by decide)) (hg 741 _ (by decide +kernel)) (hg 742 _ (by decide +kernel)) (hg 743 _ (by decide +kernel)) (hg 744 _ (by decide +kernel)) (fun j hj => ?_))
  match j, hj with
  | 0, _ => exact hg 745 _ (by decide +kernel)
  | 1, _ => exact hg 746 _ (by decide +kernel)
  | 2, _ => exact hg 747 _ (by decide +kernel)
  | 3, _ => exact hg 748 _ (by decide +kernel)
  | 4, _ => exact hg 749 _ (by decide +kernel)
  | k + 5, h9 => exact absurd h9 (by simp)
theorem sc_RX11_372 (h : q_Ok G) : vk_R RX11 372 "first" (q_sa G RX11 372) (q_0 G) ∧ q_st G (q_sa G RX11 372) [102, 105, 114, 115, 116] := by
  obtain ⟨b, hw, hg⟩ := q_giv2 h
  refine q_scof h b (hw _ (q_mt 1664 (by decide +kernel))) (q_stof h b (by decide) (q_b128 (by decide)) (hg 751 _ (by decide +kernel)) (hg 752 _ (by decide +kernel)) (hg 753 _ (by decide +kernel)) (hg 754 _ (by decide +kernel)) (fun j hj => ?_))
  match j, hj with
  | 0, _ => exact hg 755 _ (by decide +kernel)
  | 1, _ => exact hg 756 _ (by decide +kernel)
  | 2, _ => exact hg 757 _ (by decide +kernel)
  | 3, _ => exact hg 758 _ (by decide +kernel)
  | 4, _ => exact hg 759 _ (by decide +kernel)
  | k + 5, h9 => exact absurd h9 (by simp)
theorem sc_RX11_487 (h : q_Ok G) : vk_R RX11 487 "rule " (q_sa G RX11 487) (q_0 G) ∧ q_st G (q_sa G RX11 487) [114, 117, 108, 101, 32] := by
  obtain ⟨b, hw, hg⟩ := q_giv2 h
  refine q_scof h b (hw _ (q_mt 2093 (by decide +kernel))) (q_stof h b (by decide) (q_b128 (by decide)) (hg 761 _ (by decide +kernel)) (hg 762 _ (by decide +kernel)) (hg 763 _ (by decide +kernel)) (hg 764 _ (by decide +kernel)) (fun j hj => ?_))
  match j, hj with
  | 0, _ => exact hg 765 _ (by decide +kernel)
  | 1, _ => exact hg 766 _ (by decide +kernel)
  | 2, _ => exact hg 767 _ (by decide +kernel)
  | 3, _ => exact hg 768 _ (by decide +kernel)
  | 4, _ => exact hg 769 _ (by decide +kernel)
  | k + 5, h9 => exact absurd h9 (by simp)
theorem sc_RX11_493 (h : q_Ok G) : vk_R RX11 493 " only" (q_sa G RX11 493) (q_0 G) ∧ q_st G (q_sa G RX11 493) [32, 111, 110, 108, 121] := by
  obtain ⟨b, hw, hg⟩ := q_giv2 h
  refine q_scof h b (hw _ (q_mt 2098 (by decide +kernel))) (q_stof h b (by decide) (q_b128 (by decide)) (hg 771 _ (by decide +kernel)) (hg 772 _ (by decide +kernel)) (hg 773 _ (by decide +kernel)) (hg 774 _ (by decide +kernel)) (fun j hj => ?_))
  match j, hj with
  | 0, _ => exact hg 775 _ (by decide +kernel)
  | 1, _ => exact hg 776 _ (by decide +kernel)
  | 2, _ => exact hg 777 _ (by decide +kernel)
  | 3, _ => exact hg 778 _ (by decide +kernel)
  | 4, _ => exact hg 779 _ (by decide +kernel)
  | k + 5, h9 => exact absurd h9 (by simp)
theorem sc_RX11_498 (h : q_Ok G) : vk_R RX11 498 " slack" (q_sa G RX11 498) (q_0 G) ∧ q_st G (q_sa G RX11 498) [32, 115, 108, 97, 99, 107] := by
  obtain ⟨b, hw, hg⟩ := q_giv2 h
  refine q_scof h b (hw _ (q_mt 2103 (by decide +kernel))) (q_stof h b (by decide) (q_b128 (by decide)) (hg 781 _ (by decide +kernel)) (hg 782 _ (by decide +kernel)) (hg 783 _ (by decide +kernel)) (hg 784 _ (by decide +kernel)) (fun j hj => ?_))
  match j, hj with
  | 0, _ => exact hg 785 _ (by decide +kernel)
  | 1, _ => exact hg 786 _ (by decide +kernel)
  | 2, _ => exact hg 787 _ (by decide +kernel)
  | 3, _ => exact hg 788 _ (by decide +kernel)
  | 4, _ => exact hg 789 _ (by decide +kernel)
  | 5, _ => exact hg 790 _ (by decide +kernel)
  | k + 6, h9 => exact absurd h9 (by simp)
theorem sc_RX11_500 (h : q_Ok G) : vk_R RX11 500 " most" (q_sa G RX11 500) (q_0 G) ∧ q_st G (q_sa G RX11 500) [32, 109, 111, 115, 116] := by
  obtain ⟨b, hw, hg⟩ := q_giv2 h
  refine q_scof h b (hw _ (q_mt 2104 (by decide +kernel))) (q_stof h b (by decide) (q_b128 (by decide)) (hg 792 _ (by decide +kernel)) (hg 793 _ (by decide +kernel)) (hg 794 _ (by decide +kernel)) (hg 795 _ (by decide +kernel)) (fun j hj => ?_))
  match j, hj with
  | 0, _ => exact hg 796 _ (by decide +kernel)
  | 1, _ => exact hg 797 _ (by decide +kernel)
  | 2, _ => exact hg 798 _ (by decide +kernel)
  | 3, _ => exact hg 799 _ (by decide +kernel)
  | 4, _ => exact hg 800 _ (by decide +kernel)
  | k + 5, h9 => exact absurd h9 (by simp)
theorem sc_RX11_502 (h : q_Ok G) : vk_R RX11 502 " bar" (q_sa G RX11 502) (q_0 G) ∧ q_st G (q_sa G RX11 502) [32, 98, 97, 114] := by
  obtain ⟨b, hw, hg⟩ := q_giv2 h
  refine q_scof h b (hw _ (q_mt 2105 (by decide +kernel))) (q_stof h b (by decide) (q_b128 (by decide)) (hg 802 _ (by decide +kernel)) (hg 803 _ (by decide +kernel)) (hg 804 _ (by decide +kernel)) (hg 805 _ (by decide +kernel)) (fun j hj => ?_))
  match j, hj with
  | 0, _ => exact hg 806 _ (by decide +kernel)
  | 1, _ => exact hg 807 _ (by decide +kernel)
  | 2, _ => exact hg 808 _ (by decide +kernel)
  | 3, _ => exact hg 809 _ (by decide +kernel)
  | k + 4, h9 => exact absurd h9 (by simp)
end
