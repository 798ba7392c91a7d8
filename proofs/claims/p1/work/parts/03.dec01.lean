theorem dX5_sees_0 : decode cX5_sees 0 = .ok (.aload_n 0, 1) := by decide +kernel
theorem dX5_sees_1 : decode cX5_sees 1 = .ok (.getfield 48, 3) := by decide +kernel
theorem dX5_sees_4 : decode cX5_sees 4 = .ok (.iload_n 1, 1) := by decide +kernel
theorem dX5_sees_5 : decode cX5_sees 5 = .ok (.i2l, 1) := by decide +kernel
theorem dX5_sees_6 : decode cX5_sees 6 = .ok (.invokevirtual 83, 3) := by decide +kernel
theorem dX5_sees_9 : decode cX5_sees 9 = .ok (.ifCond .eq 27, 3) := by decide +kernel
theorem dX5_sees_36 : decode cX5_sees 36 = .ok (.bipush (-2), 2) := by decide +kernel
theorem dX5_sees_38 : decode cX5_sees 38 = .ok (.ireturn, 1) := by decide +kernel
theorem dX5_sight_0 : decode cX5_sight 0 = .ok (.aload_n 0, 1) := by decide +kernel
theorem dX5_sight_1 : decode cX5_sight 1 = .ok (.getfield 48, 3) := by decide +kernel
theorem dX5_sight_4 : decode cX5_sight 4 = .ok (.iload_n 1, 1) := by decide +kernel
theorem dX5_sight_5 : decode cX5_sight 5 = .ok (.i2l, 1) := by decide +kernel
theorem dX5_sight_6 : decode cX5_sight 6 = .ok (.invokevirtual 83, 3) := by decide +kernel
theorem dX5_sight_9 : decode cX5_sight 9 = .ok (.ifCond .eq 15, 3) := by decide +kernel
theorem dX5_sight_24 : decode cX5_sight 24 = .ok (.bipush (-2), 2) := by decide +kernel
theorem dX5_sight_26 : decode cX5_sight 26 = .ok (.ireturn, 1) := by decide +kernel
theorem dX5_swears_0 : decode cX5_swears 0 = .ok (.aload_n 0, 1) := by decide +kernel
theorem dX5_swears_1 : decode cX5_swears 1 = .ok (.getfield 48, 3) := by decide +kernel
theorem dX5_swears_4 : decode cX5_swears 4 = .ok (.iload_n 1, 1) := by decide +kernel
theorem dX5_swears_5 : decode cX5_swears 5 = .ok (.i2l, 1) := by decide +kernel
theorem dX5_swears_6 : decode cX5_swears 6 = .ok (.invokevirtual 83, 3) := by decide +kernel
theorem dX5_swears_9 : decode cX5_swears 9 = .ok (.ifCond .eq 15, 3) := by decide +kernel
theorem dX5_swears_24 : decode cX5_swears 24 = .ok (.bipush (-2), 2) := by decide +kernel
theorem dX5_swears_26 : decode cX5_swears 26 = .ok (.ireturn, 1) := by decide +kernel
theorem dX5_sworn_0 : decode cX5_sworn 0 = .ok (.aload_n 0, 1) := by decide +kernel
theorem dX5_sworn_1 : decode cX5_sworn 1 = .ok (.getfield 48, 3) := by decide +kernel
theorem dX5_sworn_4 : decode cX5_sworn 4 = .ok (.iload_n 1, 1) := by decide +kernel
theorem dX5_sworn_5 : decode cX5_sworn 5 = .ok (.i2l, 1) := by decide +kernel
theorem dX5_sworn_6 : decode cX5_sworn 6 = .ok (.invokevirtual 83, 3) := by decide +kernel
theorem dX5_sworn_9 : decode cX5_sworn 9 = .ok (.ifCond .eq 14, 3) := by decide +kernel
theorem dX5_sworn_23 : decode cX5_sworn 23 = .ok (.bipush (-2), 2) := by decide +kernel
theorem dX5_sworn_25 : decode cX5_sworn 25 = .ok (.ireturn, 1) := by decide +kernel
theorem dX5_gaps_0 : decode cX5_gaps 0 = .ok (.aload_n 0, 1) := by decide +kernel
theorem dX5_gaps_1 : decode cX5_gaps 1 = .ok (.getfield 48, 3) := by decide +kernel
theorem dX5_gaps_4 : decode cX5_gaps 4 = .ok (.iload_n 1, 1) := by decide +kernel
theorem dX5_gaps_5 : decode cX5_gaps 5 = .ok (.i2l, 1) := by decide +kernel
theorem dX5_gaps_6 : decode cX5_gaps 6 = .ok (.invokevirtual 83, 3) := by decide +kernel
theorem dX5_gaps_9 : decode cX5_gaps 9 = .ok (.ifCond .eq 14, 3) := by decide +kernel
theorem dX5_gaps_23 : decode cX5_gaps 23 = .ok (.bipush (-2), 2) := by decide +kernel
theorem dX5_gaps_25 : decode cX5_gaps 25 = .ok (.ireturn, 1) := by decide +kernel
theorem dX5_alone_0 : decode cX5_alone 0 = .ok (.aload_n 0, 1) := by decide +kernel
theorem dX5_alone_1 : decode cX5_alone 1 = .ok (.getfield 48, 3) := by decide +kernel
theorem dX5_alone_4 : decode cX5_alone 4 = .ok (.iload_n 1, 1) := by decide +kernel
theorem dX5_alone_5 : decode cX5_alone 5 = .ok (.i2l, 1) := by decide +kernel
theorem dX5_alone_6 : decode cX5_alone 6 = .ok (.invokevirtual 87, 3) := by decide +kernel
theorem dX5_alone_9 : decode cX5_alone 9 = .ok (.ifCond .eq 14, 3) := by decide +kernel
theorem dX5_alone_23 : decode cX5_alone 23 = .ok (.bipush (-2), 2) := by decide +kernel
theorem dX5_alone_25 : decode cX5_alone 25 = .ok (.ireturn, 1) := by decide +kernel
theorem dX5_all_0 : decode cX5_all 0 = .ok (.aload_n 0, 1) := by decide +kernel
theorem dX5_all_1 : decode cX5_all 1 = .ok (.getfield 48, 3) := by decide +kernel
theorem dX5_all_4 : decode cX5_all 4 = .ok (.invokevirtual 115, 3) := by decide +kernel
theorem dX5_all_7 : decode cX5_all 7 = .ok (.ifCond .eq 20, 3) := by decide +kernel
theorem dX5_all_27 : decode cX5_all 27 = .ok (.bipush (-2), 2) := by decide +kernel
theorem dX5_all_29 : decode cX5_all 29 = .ok (.ireturn, 1) := by decide +kernel
theorem dX5_longest_0 : decode cX5_longest 0 = .ok (.aload_n 0, 1) := by decide +kernel
theorem dX5_longest_1 : decode cX5_longest 1 = .ok (.getfield 48, 3) := by decide +kernel
theorem dX5_longest_4 : decode cX5_longest 4 = .ok (.iload_n 1, 1) := by decide +kernel
theorem dX5_longest_5 : decode cX5_longest 5 = .ok (.i2l, 1) := by decide +kernel
theorem dX5_longest_6 : decode cX5_longest 6 = .ok (.invokevirtual 83, 3) := by decide +kernel
theorem dX5_longest_9 : decode cX5_longest 9 = .ok (.ifCond .ne 6, 3) := by decide +kernel
theorem dX5_longest_12 : decode cX5_longest 12 = .ok (.bipush (-2), 2) := by decide +kernel
theorem dX5_longest_14 : decode cX5_longest 14 = .ok (.ireturn, 1) := by decide +kernel
theorem dX5_fine_0 : decode cX5_fine 0 = .ok (.aload_n 0, 1) := by decide +kernel
theorem dX5_fine_1 : decode cX5_fine 1 = .ok (.getfield 48, 3) := by decide +kernel
theorem dX5_fine_4 : decode cX5_fine 4 = .ok (.iload_n 1, 1) := by decide +kernel
theorem dX5_fine_5 : decode cX5_fine 5 = .ok (.i2l, 1) := by decide +kernel
theorem dX5_fine_6 : decode cX5_fine 6 = .ok (.invokevirtual 83, 3) := by decide +kernel
theorem dX5_fine_9 : decode cX5_fine 9 = .ok (.ifCond .eq 14, 3) := by decide +kernel
theorem dX5_fine_23 : decode cX5_fine 23 = .ok (.bipush (-2), 2) := by decide +kernel
theorem dX5_fine_25 : decode cX5_fine 25 = .ok (.ireturn, 1) := by decide +kernel
theorem dX5_worst_0 : decode cX5_worst 0 = .ok (.aload_n 0, 1) := by decide +kernel
theorem dX5_worst_1 : decode cX5_worst 1 = .ok (.getfield 48, 3) := by decide +kernel
theorem dX5_worst_4 : decode cX5_worst 4 = .ok (.invokevirtual 115, 3) := by decide +kernel
theorem dX5_worst_7 : decode cX5_worst 7 = .ok (.ifCond .ne 6, 3) := by decide +kernel
theorem dX5_worst_10 : decode cX5_worst 10 = .ok (.bipush (-2), 2) := by decide +kernel
theorem dX5_worst_12 : decode cX5_worst 12 = .ok (.ireturn, 1) := by decide +kernel
theorem dX5_unsworn_0 : decode cX5_unsworn 0 = .ok (.aload_n 0, 1) := by decide +kernel
theorem dX5_unsworn_1 : decode cX5_unsworn 1 = .ok (.getfield 48, 3) := by decide +kernel
theorem dX5_unsworn_4 : decode cX5_unsworn 4 = .ok (.invokevirtual 115, 3) := by decide +kernel
theorem dX5_unsworn_7 : decode cX5_unsworn 7 = .ok (.ifCond .ne 6, 3) := by decide +kernel
theorem dX5_unsworn_10 : decode cX5_unsworn 10 = .ok (.bipush (-2), 2) := by decide +kernel
theorem dX5_unsworn_12 : decode cX5_unsworn 12 = .ok (.ireturn, 1) := by decide +kernel
theorem dX5_rings_0 : decode cX5_rings 0 = .ok (.aload_n 0, 1) := by decide +kernel
theorem dX5_rings_1 : decode cX5_rings 1 = .ok (.getfield 48, 3) := by decide +kernel
theorem dX5_rings_4 : decode cX5_rings 4 = .ok (.invokevirtual 115, 3) := by decide +kernel
theorem dX5_rings_7 : decode cX5_rings 7 = .ok (.ifCond .ne 6, 3) := by decide +kernel
theorem dX5_rings_10 : decode cX5_rings 10 = .ok (.bipush (-2), 2) := by decide +kernel
theorem dX5_rings_12 : decode cX5_rings 12 = .ok (.ireturn, 1) := by decide +kernel
theorem dX5_ring_0 : decode cX5_ring 0 = .ok (.aload_n 0, 1) := by decide +kernel
theorem dX5_ring_1 : decode cX5_ring 1 = .ok (.getfield 48, 3) := by decide +kernel
theorem dX5_ring_4 : decode cX5_ring 4 = .ok (.iload_n 1, 1) := by decide +kernel
theorem dX5_ring_5 : decode cX5_ring 5 = .ok (.i2l, 1) := by decide +kernel
theorem dX5_ring_6 : decode cX5_ring 6 = .ok (.invokevirtual 83, 3) := by decide +kernel
theorem dX5_ring_9 : decode cX5_ring 9 = .ok (.ifCond .eq 14, 3) := by decide +kernel
theorem dX5_ring_23 : decode cX5_ring 23 = .ok (.bipush (-2), 2) := by decide +kernel
theorem dX5_ring_25 : decode cX5_ring 25 = .ok (.ireturn, 1) := by decide +kernel
theorem dX5_chain_0 : decode cX5_chain 0 = .ok (.aload_n 0, 1) := by decide +kernel
theorem dX5_chain_1 : decode cX5_chain 1 = .ok (.getfield 48, 3) := by decide +kernel
theorem dX5_chain_4 : decode cX5_chain 4 = .ok (.iload_n 1, 1) := by decide +kernel
theorem dX5_chain_5 : decode cX5_chain 5 = .ok (.i2l, 1) := by decide +kernel
theorem dX5_chain_6 : decode cX5_chain 6 = .ok (.invokevirtual 83, 3) := by decide +kernel
theorem dX5_chain_9 : decode cX5_chain 9 = .ok (.ifCond .eq 17, 3) := by decide +kernel
theorem dX5_chain_26 : decode cX5_chain 26 = .ok (.bipush (-2), 2) := by decide +kernel
theorem dX5_chain_28 : decode cX5_chain 28 = .ok (.ireturn, 1) := by decide +kernel
theorem dX5_best_0 : decode cX5_best 0 = .ok (.aload_n 0, 1) := by decide +kernel
theorem dX5_best_1 : decode cX5_best 1 = .ok (.getfield 48, 3) := by decide +kernel
theorem dX5_best_4 : decode cX5_best 4 = .ok (.invokevirtual 115, 3) := by decide +kernel
theorem dX5_best_7 : decode cX5_best 7 = .ok (.ifCond .eq 13, 3) := by decide +kernel
theorem dX5_best_20 : decode cX5_best 20 = .ok (.bipush (-2), 2) := by decide +kernel
theorem dX5_best_22 : decode cX5_best 22 = .ok (.ireturn, 1) := by decide +kernel
theorem dX5_rota_0 : decode cX5_rota 0 = .ok (.aload_n 0, 1) := by decide +kernel
theorem dX5_rota_1 : decode cX5_rota 1 = .ok (.getfield 48, 3) := by decide +kernel
theorem dX5_rota_4 : decode cX5_rota 4 = .ok (.iload_n 1, 1) := by decide +kernel
theorem dX5_rota_5 : decode cX5_rota 5 = .ok (.i2l, 1) := by decide +kernel
theorem dX5_rota_6 : decode cX5_rota 6 = .ok (.invokevirtual 83, 3) := by decide +kernel
theorem dX5_rota_9 : decode cX5_rota 9 = .ok (.ifCond .eq 15, 3) := by decide +kernel
theorem dX5_rota_24 : decode cX5_rota 24 = .ok (.bipush (-2), 2) := by decide +kernel
theorem dX5_rota_26 : decode cX5_rota 26 = .ok (.ireturn, 1) := by decide +kernel
theorem dX5_ways_0 : decode cX5_ways 0 = .ok (.aload_n 0, 1) := by decide +kernel
theorem dX5_ways_1 : decode cX5_ways 1 = .ok (.getfield 48, 3) := by decide +kernel
theorem dX5_ways_4 : decode cX5_ways 4 = .ok (.invokevirtual 115, 3) := by decide +kernel
theorem dX5_ways_7 : decode cX5_ways 7 = .ok (.ifCond .eq 13, 3) := by decide +kernel
theorem dX5_ways_20 : decode cX5_ways 20 = .ok (.bipush (-2), 2) := by decide +kernel
theorem dX5_ways_22 : decode cX5_ways 22 = .ok (.ireturn, 1) := by decide +kernel
theorem dX5_fair_0 : decode cX5_fair 0 = .ok (.aload_n 0, 1) := by decide +kernel
theorem dX5_fair_1 : decode cX5_fair 1 = .ok (.getfield 48, 3) := by decide +kernel
theorem dX5_fair_4 : decode cX5_fair 4 = .ok (.invokevirtual 115, 3) := by decide +kernel
theorem dX5_fair_7 : decode cX5_fair 7 = .ok (.ifCond .eq 13, 3) := by decide +kernel
theorem dX5_fair_20 : decode cX5_fair 20 = .ok (.bipush (-2), 2) := by decide +kernel
theorem dX5_fair_22 : decode cX5_fair 22 = .ok (.ireturn, 1) := by decide +kernel
theorem dX5_clean_0 : decode cX5_clean 0 = .ok (.aload_n 0, 1) := by decide +kernel
theorem dX5_clean_1 : decode cX5_clean 1 = .ok (.getfield 48, 3) := by decide +kernel
theorem dX5_clean_4 : decode cX5_clean 4 = .ok (.invokevirtual 115, 3) := by decide +kernel
theorem dX5_clean_7 : decode cX5_clean 7 = .ok (.ifCond .eq 13, 3) := by decide +kernel
theorem dX5_clean_20 : decode cX5_clean 20 = .ok (.bipush (-2), 2) := by decide +kernel
theorem dX5_clean_22 : decode cX5_clean 22 = .ok (.ireturn, 1) := by decide +kernel
theorem dX5_trade_0 : decode cX5_trade 0 = .ok (.aload_n 0, 1) := by decide +kernel
theorem dX5_trade_1 : decode cX5_trade 1 = .ok (.getfield 48, 3) := by decide +kernel
theorem dX5_trade_4 : decode cX5_trade 4 = .ok (.invokevirtual 115, 3) := by decide +kernel
theorem dX5_trade_7 : decode cX5_trade 7 = .ok (.ifCond .ne 6, 3) := by decide +kernel
theorem dX5_trade_10 : decode cX5_trade 10 = .ok (.bipush (-2), 2) := by decide +kernel
theorem dX5_trade_12 : decode cX5_trade 12 = .ok (.ireturn, 1) := by decide +kernel
theorem dX5_envy_0 : decode cX5_envy 0 = .ok (.aload_n 0, 1) := by decide +kernel
theorem dX5_envy_1 : decode cX5_envy 1 = .ok (.getfield 48, 3) := by decide +kernel
theorem dX5_envy_4 : decode cX5_envy 4 = .ok (.invokevirtual 115, 3) := by decide +kernel
theorem dX5_envy_7 : decode cX5_envy 7 = .ok (.ifCond .ne 6, 3) := by decide +kernel
theorem dX5_envy_10 : decode cX5_envy 10 = .ok (.bipush (-2), 2) := by decide +kernel
theorem dX5_envy_12 : decode cX5_envy 12 = .ok (.ireturn, 1) := by decide +kernel
theorem dX5_often_0 : decode cX5_often 0 = .ok (.aload_n 0, 1) := by decide +kernel
theorem dX5_often_1 : decode cX5_often 1 = .ok (.getfield 48, 3) := by decide +kernel
theorem dX5_often_4 : decode cX5_often 4 = .ok (.iload_n 1, 1) := by decide +kernel
theorem dX5_often_5 : decode cX5_often 5 = .ok (.i2l, 1) := by decide +kernel
theorem dX5_often_6 : decode cX5_often 6 = .ok (.iload_n 2, 1) := by decide +kernel
theorem dX5_often_7 : decode cX5_often 7 = .ok (.i2l, 1) := by decide +kernel
theorem dX5_often_8 : decode cX5_often 8 = .ok (.invokevirtual 179, 3) := by decide +kernel
theorem dX5_often_11 : decode cX5_often 11 = .ok (.ifCond .eq 15, 3) := by decide +kernel
theorem dX5_often_26 : decode cX5_often 26 = .ok (.bipush (-2), 2) := by decide +kernel
theorem dX5_often_28 : decode cX5_often 28 = .ok (.ireturn, 1) := by decide +kernel
theorem dX5_friend_0 : decode cX5_friend 0 = .ok (.aload_n 0, 1) := by decide +kernel
theorem dX5_friend_1 : decode cX5_friend 1 = .ok (.getfield 48, 3) := by decide +kernel
theorem dX5_friend_4 : decode cX5_friend 4 = .ok (.iload_n 1, 1) := by decide +kernel
theorem dX5_friend_5 : decode cX5_friend 5 = .ok (.i2l, 1) := by decide +kernel
theorem dX5_friend_6 : decode cX5_friend 6 = .ok (.invokevirtual 83, 3) := by decide +kernel
theorem dX5_friend_9 : decode cX5_friend 9 = .ok (.ifCond .ne 6, 3) := by decide +kernel
theorem dX5_friend_12 : decode cX5_friend 12 = .ok (.bipush (-2), 2) := by decide +kernel
theorem dX5_friend_14 : decode cX5_friend 14 = .ok (.ireturn, 1) := by decide +kernel
theorem dX5_witness_0 : decode cX5_witness 0 = .ok (.aload_n 0, 1) := by decide +kernel
theorem dX5_witness_1 : decode cX5_witness 1 = .ok (.getfield 48, 3) := by decide +kernel
theorem dX5_witness_4 : decode cX5_witness 4 = .ok (.iload_n 1, 1) := by decide +kernel
theorem dX5_witness_5 : decode cX5_witness 5 = .ok (.i2l, 1) := by decide +kernel
theorem dX5_witness_6 : decode cX5_witness 6 = .ok (.invokevirtual 186, 3) := by decide +kernel
theorem dX5_witness_9 : decode cX5_witness 9 = .ok (.ifCond .eq 27, 3) := by decide +kernel
theorem dX5_witness_36 : decode cX5_witness 36 = .ok (.bipush (-2), 2) := by decide +kernel
theorem dX5_witness_38 : decode cX5_witness 38 = .ok (.ireturn, 1) := by decide +kernel
theorem dX5_dark_0 : decode cX5_dark 0 = .ok (.aload_n 0, 1) := by decide +kernel
theorem dX5_dark_1 : decode cX5_dark 1 = .ok (.getfield 48, 3) := by decide +kernel
theorem dX5_dark_4 : decode cX5_dark 4 = .ok (.iload_n 1, 1) := by decide +kernel
theorem dX5_dark_5 : decode cX5_dark 5 = .ok (.i2l, 1) := by decide +kernel
theorem dX5_dark_6 : decode cX5_dark 6 = .ok (.invokevirtual 87, 3) := by decide +kernel
theorem dX5_dark_9 : decode cX5_dark 9 = .ok (.ifCond .ne 6, 3) := by decide +kernel
theorem dX5_dark_12 : decode cX5_dark 12 = .ok (.bipush (-2), 2) := by decide +kernel
theorem dX5_dark_14 : decode cX5_dark 14 = .ok (.ireturn, 1) := by decide +kernel
theorem dX5_crowd_0 : decode cX5_crowd 0 = .ok (.aload_n 0, 1) := by decide +kernel
theorem dX5_crowd_1 : decode cX5_crowd 1 = .ok (.getfield 48, 3) := by decide +kernel
theorem dX5_crowd_4 : decode cX5_crowd 4 = .ok (.iload_n 1, 1) := by decide +kernel
theorem dX5_crowd_5 : decode cX5_crowd 5 = .ok (.i2l, 1) := by decide +kernel
theorem dX5_crowd_6 : decode cX5_crowd 6 = .ok (.invokevirtual 87, 3) := by decide +kernel
theorem dX5_crowd_9 : decode cX5_crowd 9 = .ok (.ifCond .ne 6, 3) := by decide +kernel
theorem dX5_crowd_12 : decode cX5_crowd 12 = .ok (.bipush (-2), 2) := by decide +kernel
theorem dX5_crowd_14 : decode cX5_crowd 14 = .ok (.ireturn, 1) := by decide +kernel
theorem dX5_busiest_0 : decode cX5_busiest 0 = .ok (.aload_n 0, 1) := by decide +kernel
theorem dX5_busiest_1 : decode cX5_busiest 1 = .ok (.getfield 48, 3) := by decide +kernel
theorem dX5_busiest_4 : decode cX5_busiest 4 = .ok (.invokevirtual 115, 3) := by decide +kernel
theorem dX5_busiest_7 : decode cX5_busiest 7 = .ok (.ifCond .ne 6, 3) := by decide +kernel
theorem dX5_busiest_10 : decode cX5_busiest 10 = .ok (.bipush (-2), 2) := by decide +kernel
theorem dX5_busiest_12 : decode cX5_busiest 12 = .ok (.ireturn, 1) := by decide +kernel
theorem dX5_mutual_0 : decode cX5_mutual 0 = .ok (.aload_n 0, 1) := by decide +kernel
theorem dX5_mutual_1 : decode cX5_mutual 1 = .ok (.getfield 48, 3) := by decide +kernel
theorem dX5_mutual_4 : decode cX5_mutual 4 = .ok (.invokevirtual 115, 3) := by decide +kernel
theorem dX5_mutual_7 : decode cX5_mutual 7 = .ok (.ifCond .ne 6, 3) := by decide +kernel
theorem dX5_mutual_10 : decode cX5_mutual 10 = .ok (.bipush (-2), 2) := by decide +kernel
theorem dX5_mutual_12 : decode cX5_mutual 12 = .ok (.ireturn, 1) := by decide +kernel
theorem dX5_homebody_0 : decode cX5_homebody 0 = .ok (.aload_n 0, 1) := by decide +kernel
theorem dX5_homebody_1 : decode cX5_homebody 1 = .ok (.getfield 48, 3) := by decide +kernel
theorem dX5_homebody_4 : decode cX5_homebody 4 = .ok (.invokevirtual 115, 3) := by decide +kernel
theorem dX5_homebody_7 : decode cX5_homebody 7 = .ok (.ifCond .ne 6, 3) := by decide +kernel
theorem dX5_homebody_10 : decode cX5_homebody 10 = .ok (.bipush (-2), 2) := by decide +kernel
theorem dX5_homebody_12 : decode cX5_homebody 12 = .ok (.ireturn, 1) := by decide +kernel
theorem dX5_extra_0 : decode cX5_extra 0 = .ok (.aload_n 0, 1) := by decide +kernel
theorem dX5_extra_1 : decode cX5_extra 1 = .ok (.getfield 48, 3) := by decide +kernel
theorem dX5_extra_4 : decode cX5_extra 4 = .ok (.invokevirtual 115, 3) := by decide +kernel
theorem dX5_extra_7 : decode cX5_extra 7 = .ok (.ifCond .ne 6, 3) := by decide +kernel
theorem dX5_extra_10 : decode cX5_extra 10 = .ok (.bipush (-2), 2) := by decide +kernel
theorem dX5_extra_12 : decode cX5_extra 12 = .ok (.ireturn, 1) := by decide +kernel
theorem dX5_tied_0 : decode cX5_tied 0 = .ok (.aload_n 0, 1) := by decide +kernel
theorem dX5_tied_1 : decode cX5_tied 1 = .ok (.getfield 48, 3) := by decide +kernel
theorem dX5_tied_4 : decode cX5_tied 4 = .ok (.iload_n 1, 1) := by decide +kernel
theorem dX5_tied_5 : decode cX5_tied 5 = .ok (.i2l, 1) := by decide +kernel
theorem dX5_tied_6 : decode cX5_tied 6 = .ok (.iload_n 2, 1) := by decide +kernel
theorem dX5_tied_7 : decode cX5_tied 7 = .ok (.i2l, 1) := by decide +kernel
theorem dX5_tied_8 : decode cX5_tied 8 = .ok (.invokevirtual 179, 3) := by decide +kernel
theorem dX5_tied_11 : decode cX5_tied 11 = .ok (.ifCond .ne 6, 3) := by decide +kernel
theorem dX5_tied_14 : decode cX5_tied 14 = .ok (.bipush (-2), 2) := by decide +kernel
theorem dX5_tied_16 : decode cX5_tied 16 = .ok (.ireturn, 1) := by decide +kernel
theorem dX5_ties_0 : decode cX5_ties 0 = .ok (.aload_n 0, 1) := by decide +kernel
theorem dX5_ties_1 : decode cX5_ties 1 = .ok (.getfield 48, 3) := by decide +kernel
theorem dX5_ties_4 : decode cX5_ties 4 = .ok (.iload_n 1, 1) := by decide +kernel
theorem dX5_ties_5 : decode cX5_ties 5 = .ok (.i2l, 1) := by decide +kernel
theorem dX5_ties_6 : decode cX5_ties 6 = .ok (.iload_n 2, 1) := by decide +kernel
theorem dX5_ties_7 : decode cX5_ties 7 = .ok (.i2l, 1) := by decide +kernel
theorem dX5_ties_8 : decode cX5_ties 8 = .ok (.invokevirtual 179, 3) := by decide +kernel
theorem dX5_ties_11 : decode cX5_ties 11 = .ok (.ifCond .eq 15, 3) := by decide +kernel
theorem dX5_ties_26 : decode cX5_ties 26 = .ok (.bipush (-2), 2) := by decide +kernel
theorem dX5_ties_28 : decode cX5_ties 28 = .ok (.ireturn, 1) := by decide +kernel
theorem dX5_steps_0 : decode cX5_steps 0 = .ok (.aload_n 0, 1) := by decide +kernel
theorem dX5_steps_1 : decode cX5_steps 1 = .ok (.getfield 48, 3) := by decide +kernel
theorem dX5_steps_4 : decode cX5_steps 4 = .ok (.iload_n 1, 1) := by decide +kernel
theorem dX5_steps_5 : decode cX5_steps 5 = .ok (.i2l, 1) := by decide +kernel
theorem dX5_steps_6 : decode cX5_steps 6 = .ok (.iload_n 2, 1) := by decide +kernel
theorem dX5_steps_7 : decode cX5_steps 7 = .ok (.i2l, 1) := by decide +kernel
theorem dX5_steps_8 : decode cX5_steps 8 = .ok (.invokevirtual 179, 3) := by decide +kernel
theorem dX5_steps_11 : decode cX5_steps 11 = .ok (.ifCond .ne 6, 3) := by decide +kernel
theorem dX5_steps_14 : decode cX5_steps 14 = .ok (.bipush (-2), 2) := by decide +kernel
theorem dX5_steps_16 : decode cX5_steps 16 = .ok (.ireturn, 1) := by decide +kernel
theorem dX5_deeds_0 : decode cX5_deeds 0 = .ok (.aload_n 0, 1) := by decide +kernel
theorem dX5_deeds_1 : decode cX5_deeds 1 = .ok (.getfield 48, 3) := by decide +kernel
theorem dX5_deeds_4 : decode cX5_deeds 4 = .ok (.iload_n 1, 1) := by decide +kernel
theorem dX5_deeds_5 : decode cX5_deeds 5 = .ok (.i2l, 1) := by decide +kernel
theorem dX5_deeds_6 : decode cX5_deeds 6 = .ok (.invokevirtual 83, 3) := by decide +kernel
theorem dX5_deeds_9 : decode cX5_deeds 9 = .ok (.ifCond .eq 15, 3) := by decide +kernel
theorem dX5_deeds_24 : decode cX5_deeds 24 = .ok (.bipush (-2), 2) := by decide +kernel
theorem dX5_deeds_26 : decode cX5_deeds 26 = .ok (.ireturn, 1) := by decide +kernel
theorem dX5_can_0 : decode cX5_can 0 = .ok (.aload_n 0, 1) := by decide +kernel
theorem dX5_can_1 : decode cX5_can 1 = .ok (.getfield 48, 3) := by decide +kernel
theorem dX5_can_4 : decode cX5_can 4 = .ok (.iload_n 1, 1) := by decide +kernel
theorem dX5_can_5 : decode cX5_can 5 = .ok (.i2l, 1) := by decide +kernel
theorem dX5_can_6 : decode cX5_can 6 = .ok (.invokevirtual 186, 3) := by decide +kernel
theorem dX5_can_9 : decode cX5_can 9 = .ok (.ifCond .eq 27, 3) := by decide +kernel
theorem dX5_can_36 : decode cX5_can 36 = .ok (.bipush (-2), 2) := by decide +kernel
theorem dX5_can_38 : decode cX5_can 38 = .ok (.ireturn, 1) := by decide +kernel
theorem dX5_safe_0 : decode cX5_safe 0 = .ok (.aload_n 0, 1) := by decide +kernel
theorem dX5_safe_1 : decode cX5_safe 1 = .ok (.getfield 48, 3) := by decide +kernel
theorem dX5_safe_4 : decode cX5_safe 4 = .ok (.invokevirtual 115, 3) := by decide +kernel
theorem dX5_safe_7 : decode cX5_safe 7 = .ok (.ifCond .ne 6, 3) := by decide +kernel
theorem dX5_safe_10 : decode cX5_safe 10 = .ok (.bipush (-2), 2) := by decide +kernel
theorem dX5_safe_12 : decode cX5_safe 12 = .ok (.ireturn, 1) := by decide +kernel
theorem dX5_guard_0 : decode cX5_guard 0 = .ok (.aload_n 0, 1) := by decide +kernel
theorem dX5_guard_1 : decode cX5_guard 1 = .ok (.getfield 48, 3) := by decide +kernel
theorem dX5_guard_4 : decode cX5_guard 4 = .ok (.iload_n 1, 1) := by decide +kernel
theorem dX5_guard_5 : decode cX5_guard 5 = .ok (.i2l, 1) := by decide +kernel
theorem dX5_guard_6 : decode cX5_guard 6 = .ok (.invokevirtual 83, 3) := by decide +kernel
theorem dX5_guard_9 : decode cX5_guard 9 = .ok (.ifCond .eq 15, 3) := by decide +kernel
theorem dX5_guard_24 : decode cX5_guard 24 = .ok (.bipush (-2), 2) := by decide +kernel
theorem dX5_guard_26 : decode cX5_guard 26 = .ok (.ireturn, 1) := by decide +kernel
theorem dX5_guards_0 : decode cX5_guards 0 = .ok (.aload_n 0, 1) := by decide +kernel
theorem dX5_guards_1 : decode cX5_guards 1 = .ok (.getfield 48, 3) := by decide +kernel
theorem dX5_guards_4 : decode cX5_guards 4 = .ok (.iload_n 1, 1) := by decide +kernel
theorem dX5_guards_5 : decode cX5_guards 5 = .ok (.i2l, 1) := by decide +kernel
theorem dX5_guards_6 : decode cX5_guards 6 = .ok (.invokevirtual 83, 3) := by decide +kernel
theorem dX5_guards_9 : decode cX5_guards 9 = .ok (.ifCond .ne 6, 3) := by decide +kernel
theorem dX5_guards_12 : decode cX5_guards 12 = .ok (.bipush (-2), 2) := by decide +kernel
theorem dX5_guards_14 : decode cX5_guards 14 = .ok (.ireturn, 1) := by decide +kernel
theorem dX5_guarded_0 : decode cX5_guarded 0 = .ok (.aload_n 0, 1) := by decide +kernel
theorem dX5_guarded_1 : decode cX5_guarded 1 = .ok (.getfield 48, 3) := by decide +kernel
theorem dX5_guarded_4 : decode cX5_guarded 4 = .ok (.iload_n 1, 1) := by decide +kernel
theorem dX5_guarded_5 : decode cX5_guarded 5 = .ok (.i2l, 1) := by decide +kernel
theorem dX5_guarded_6 : decode cX5_guarded 6 = .ok (.invokevirtual 83, 3) := by decide +kernel
theorem dX5_guarded_9 : decode cX5_guarded 9 = .ok (.ifCond .eq 14, 3) := by decide +kernel
theorem dX5_guarded_23 : decode cX5_guarded 23 = .ok (.bipush (-2), 2) := by decide +kernel
theorem dX5_guarded_25 : decode cX5_guarded 25 = .ok (.ireturn, 1) := by decide +kernel
theorem dX5_who_0 : decode cX5_who 0 = .ok (.aload_n 0, 1) := by decide +kernel
theorem dX5_who_1 : decode cX5_who 1 = .ok (.iload_n 1, 1) := by decide +kernel
theorem dX5_who_2 : decode cX5_who 2 = .ok (.invokevirtual 230, 3) := by decide +kernel
theorem dX5_who_5 : decode cX5_who 5 = .ok (.istore_n 2, 1) := by decide +kernel
theorem dX5_who_6 : decode cX5_who 6 = .ok (.iload_n 2, 1) := by decide +kernel
theorem dX5_who_7 : decode cX5_who 7 = .ok (.ifCond .eq 7, 3) := by decide +kernel
theorem dX5_who_10 : decode cX5_who 10 = .ok (.iload_n 2, 1) := by decide +kernel
theorem dX5_who_11 : decode cX5_who 11 = .ok (.goto 8, 3) := by decide +kernel
theorem dX5_who_19 : decode cX5_who 19 = .ok (.ireturn, 1) := by decide +kernel
theorem dX5_ask_0 : decode cX5_ask 0 = .ok (.aload_n 0, 1) := by decide +kernel
theorem dX5_ask_1 : decode cX5_ask 1 = .ok (.iload_n 1, 1) := by decide +kernel
theorem dX5_ask_2 : decode cX5_ask 2 = .ok (.invokevirtual 230, 3) := by decide +kernel
theorem dX5_ask_5 : decode cX5_ask 5 = .ok (.istore_n 2, 1) := by decide +kernel
theorem dX5_ask_6 : decode cX5_ask 6 = .ok (.iload_n 2, 1) := by decide +kernel
theorem dX5_ask_7 : decode cX5_ask 7 = .ok (.ifCond .eq 7, 3) := by decide +kernel
theorem dX5_ask_10 : decode cX5_ask 10 = .ok (.iload_n 2, 1) := by decide +kernel
theorem dX5_ask_11 : decode cX5_ask 11 = .ok (.goto 8, 3) := by decide +kernel
theorem dX5_ask_19 : decode cX5_ask 19 = .ok (.ireturn, 1) := by decide +kernel
theorem dX5_leaves_0 : decode cX5_leaves 0 = .ok (.aload_n 0, 1) := by decide +kernel
theorem dX5_leaves_1 : decode cX5_leaves 1 = .ok (.iload_n 1, 1) := by decide +kernel
theorem dX5_leaves_2 : decode cX5_leaves 2 = .ok (.invokevirtual 230, 3) := by decide +kernel
theorem dX5_leaves_5 : decode cX5_leaves 5 = .ok (.istore_n 2, 1) := by decide +kernel
theorem dX5_leaves_6 : decode cX5_leaves 6 = .ok (.iload_n 2, 1) := by decide +kernel
theorem dX5_leaves_7 : decode cX5_leaves 7 = .ok (.ifCond .eq 5, 3) := by decide +kernel
theorem dX5_leaves_10 : decode cX5_leaves 10 = .ok (.iload_n 2, 1) := by decide +kernel
theorem dX5_leaves_11 : decode cX5_leaves 11 = .ok (.ireturn, 1) := by decide +kernel
theorem dX5_lies_0 : decode cX5_lies 0 = .ok (.aload_n 0, 1) := by decide +kernel
theorem dX5_lies_1 : decode cX5_lies 1 = .ok (.iload_n 1, 1) := by decide +kernel
theorem dX5_lies_2 : decode cX5_lies 2 = .ok (.invokevirtual 247, 3) := by decide +kernel
theorem dX5_lies_5 : decode cX5_lies 5 = .ok (.istore_n 2, 1) := by decide +kernel
theorem dX5_lies_6 : decode cX5_lies 6 = .ok (.iload_n 2, 1) := by decide +kernel
theorem dX5_lies_7 : decode cX5_lies 7 = .ok (.ifCond .eq 5, 3) := by decide +kernel
theorem dX5_lies_10 : decode cX5_lies 10 = .ok (.iload_n 2, 1) := by decide +kernel
theorem dX5_lies_11 : decode cX5_lies 11 = .ok (.ireturn, 1) := by decide +kernel
theorem dX5_liars_0 : decode cX5_liars 0 = .ok (.aload_n 0, 1) := by decide +kernel
theorem dX5_liars_1 : decode cX5_liars 1 = .ok (.iload_n 1, 1) := by decide +kernel
theorem dX5_liars_2 : decode cX5_liars 2 = .ok (.invokevirtual 247, 3) := by decide +kernel
theorem dX5_liars_5 : decode cX5_liars 5 = .ok (.istore_n 2, 1) := by decide +kernel
theorem dX5_liars_6 : decode cX5_liars 6 = .ok (.iload_n 2, 1) := by decide +kernel
theorem dX5_liars_7 : decode cX5_liars 7 = .ok (.ifCond .eq 5, 3) := by decide +kernel
theorem dX5_liars_10 : decode cX5_liars 10 = .ok (.iload_n 2, 1) := by decide +kernel
theorem dX5_liars_11 : decode cX5_liars 11 = .ok (.ireturn, 1) := by decide +kernel
theorem dX5_closed_0 : decode cX5_closed 0 = .ok (.aload_n 0, 1) := by decide +kernel
theorem dX5_closed_1 : decode cX5_closed 1 = .ok (.getfield 48, 3) := by decide +kernel
theorem dX5_closed_4 : decode cX5_closed 4 = .ok (.iload_n 2, 1) := by decide +kernel
theorem dX5_closed_5 : decode cX5_closed 5 = .ok (.i2l, 1) := by decide +kernel
theorem dX5_closed_6 : decode cX5_closed 6 = .ok (.invokevirtual 83, 3) := by decide +kernel
theorem dX5_closed_9 : decode cX5_closed 9 = .ok (.ifCond .ne 6, 3) := by decide +kernel
theorem dX5_closed_12 : decode cX5_closed 12 = .ok (.bipush (-2), 2) := by decide +kernel
theorem dX5_closed_14 : decode cX5_closed 14 = .ok (.ireturn, 1) := by decide +kernel
theorem dX5_worn_0 : decode cX5_worn 0 = .ok (.aload_n 0, 1) := by decide +kernel
theorem dX5_worn_1 : decode cX5_worn 1 = .ok (.iload_n 1, 1) := by decide +kernel
theorem dX5_worn_2 : decode cX5_worn 2 = .ok (.invokevirtual 256, 3) := by decide +kernel
theorem dX5_worn_5 : decode cX5_worn 5 = .ok (.istore_n 2, 1) := by decide +kernel
theorem dX5_worn_6 : decode cX5_worn 6 = .ok (.iload_n 2, 1) := by decide +kernel
theorem dX5_worn_7 : decode cX5_worn 7 = .ok (.ifCond .eq 5, 3) := by decide +kernel
theorem dX5_worn_10 : decode cX5_worn 10 = .ok (.iload_n 2, 1) := by decide +kernel
theorem dX5_worn_11 : decode cX5_worn 11 = .ok (.ireturn, 1) := by decide +kernel
theorem dX5_wore_0 : decode cX5_wore 0 = .ok (.aload_n 0, 1) := by decide +kernel
theorem dX5_wore_1 : decode cX5_wore 1 = .ok (.getfield 48, 3) := by decide +kernel
theorem dX5_wore_4 : decode cX5_wore 4 = .ok (.iload_n 2, 1) := by decide +kernel
theorem dX5_wore_5 : decode cX5_wore 5 = .ok (.i2l, 1) := by decide +kernel
theorem dX5_wore_6 : decode cX5_wore 6 = .ok (.invokevirtual 83, 3) := by decide +kernel
theorem dX5_wore_9 : decode cX5_wore 9 = .ok (.ifCond .ne 6, 3) := by decide +kernel
theorem dX5_wore_12 : decode cX5_wore 12 = .ok (.bipush (-2), 2) := by decide +kernel
theorem dX5_wore_14 : decode cX5_wore 14 = .ok (.ireturn, 1) := by decide +kernel
theorem dX5_surely_0 : decode cX5_surely 0 = .ok (.aload_n 0, 1) := by decide +kernel
theorem dX5_surely_1 : decode cX5_surely 1 = .ok (.getfield 48, 3) := by decide +kernel
theorem dX5_surely_4 : decode cX5_surely 4 = .ok (.iload_n 2, 1) := by decide +kernel
theorem dX5_surely_5 : decode cX5_surely 5 = .ok (.i2l, 1) := by decide +kernel
theorem dX5_surely_6 : decode cX5_surely 6 = .ok (.invokevirtual 83, 3) := by decide +kernel
theorem dX5_surely_9 : decode cX5_surely 9 = .ok (.ifCond .ne 6, 3) := by decide +kernel
theorem dX5_surely_12 : decode cX5_surely 12 = .ok (.bipush (-2), 2) := by decide +kernel
theorem dX5_surely_14 : decode cX5_surely 14 = .ok (.ireturn, 1) := by decide +kernel
theorem dX5_law_0 : decode cX5_law 0 = .ok (.aload_n 0, 1) := by decide +kernel
theorem dX5_law_1 : decode cX5_law 1 = .ok (.getfield 48, 3) := by decide +kernel
theorem dX5_law_4 : decode cX5_law 4 = .ok (.iload_n 1, 1) := by decide +kernel
theorem dX5_law_5 : decode cX5_law 5 = .ok (.i2l, 1) := by decide +kernel
theorem dX5_law_6 : decode cX5_law 6 = .ok (.invokevirtual 87, 3) := by decide +kernel
theorem dX5_law_9 : decode cX5_law 9 = .ok (.ifCond .eq 20, 3) := by decide +kernel
theorem dX5_law_29 : decode cX5_law 29 = .ok (.bipush (-2), 2) := by decide +kernel
theorem dX5_law_31 : decode cX5_law 31 = .ok (.ireturn, 1) := by decide +kernel
theorem dX5_chance_0 : decode cX5_chance 0 = .ok (.aload_n 0, 1) := by decide +kernel
theorem dX5_chance_1 : decode cX5_chance 1 = .ok (.getfield 48, 3) := by decide +kernel
theorem dX5_chance_4 : decode cX5_chance 4 = .ok (.iload_n 1, 1) := by decide +kernel
theorem dX5_chance_5 : decode cX5_chance 5 = .ok (.i2l, 1) := by decide +kernel
theorem dX5_chance_6 : decode cX5_chance 6 = .ok (.invokevirtual 83, 3) := by decide +kernel
theorem dX5_chance_9 : decode cX5_chance 9 = .ok (.ifCond .eq 12, 3) := by decide +kernel
theorem dX5_chance_21 : decode cX5_chance 21 = .ok (.ldc2_w 271, 3) := by decide +kernel
theorem dX5_chance_24 : decode cX5_chance 24 = .ok (.lreturn, 1) := by decide +kernel
theorem dX5_likely_0 : decode cX5_likely 0 = .ok (.aload_n 0, 1) := by decide +kernel
theorem dX5_likely_1 : decode cX5_likely 1 = .ok (.getfield 48, 3) := by decide +kernel
theorem dX5_likely_4 : decode cX5_likely 4 = .ok (.iload_n 1, 1) := by decide +kernel
theorem dX5_likely_5 : decode cX5_likely 5 = .ok (.i2l, 1) := by decide +kernel
theorem dX5_likely_6 : decode cX5_likely 6 = .ok (.invokevirtual 83, 3) := by decide +kernel
theorem dX5_likely_9 : decode cX5_likely 9 = .ok (.ifCond .ne 6, 3) := by decide +kernel
theorem dX5_likely_12 : decode cX5_likely 12 = .ok (.bipush (-2), 2) := by decide +kernel
theorem dX5_likely_14 : decode cX5_likely 14 = .ok (.ireturn, 1) := by decide +kernel
theorem dX5_drawn_0 : decode cX5_drawn 0 = .ok (.aload_n 0, 1) := by decide +kernel
theorem dX5_drawn_1 : decode cX5_drawn 1 = .ok (.getfield 48, 3) := by decide +kernel
theorem dX5_drawn_4 : decode cX5_drawn 4 = .ok (.invokevirtual 115, 3) := by decide +kernel
theorem dX5_drawn_7 : decode cX5_drawn 7 = .ok (.ifCond .eq 23, 3) := by decide +kernel
theorem dX5_drawn_30 : decode cX5_drawn 30 = .ok (.bipush (-2), 2) := by decide +kernel
theorem dX5_drawn_32 : decode cX5_drawn 32 = .ok (.ireturn, 1) := by decide +kernel
theorem dX5_luck_0 : decode cX5_luck 0 = .ok (.aload_n 0, 1) := by decide +kernel
theorem dX5_luck_1 : decode cX5_luck 1 = .ok (.getfield 48, 3) := by decide +kernel
theorem dX5_luck_4 : decode cX5_luck 4 = .ok (.iload_n 3, 1) := by decide +kernel
theorem dX5_luck_5 : decode cX5_luck 5 = .ok (.i2l, 1) := by decide +kernel
theorem dX5_luck_6 : decode cX5_luck 6 = .ok (.invokevirtual 83, 3) := by decide +kernel
theorem dX5_luck_9 : decode cX5_luck 9 = .ok (.ifCond .eq 25, 3) := by decide +kernel
theorem dX5_luck_34 : decode cX5_luck 34 = .ok (.bipush (-2), 2) := by decide +kernel
theorem dX5_luck_36 : decode cX5_luck 36 = .ok (.ireturn, 1) := by decide +kernel
theorem dX5_swear_0 : decode cX5_swear 0 = .ok (.aload_n 0, 1) := by decide +kernel
theorem dX5_swear_1 : decode cX5_swear 1 = .ok (.getfield 48, 3) := by decide +kernel
theorem dX5_swear_4 : decode cX5_swear 4 = .ok (.iload_n 1, 1) := by decide +kernel
theorem dX5_swear_5 : decode cX5_swear 5 = .ok (.i2l, 1) := by decide +kernel
theorem dX5_swear_6 : decode cX5_swear 6 = .ok (.invokevirtual 83, 3) := by decide +kernel
theorem dX5_swear_9 : decode cX5_swear 9 = .ok (.ifCond .eq 22, 3) := by decide +kernel
theorem dX5_swear_31 : decode cX5_swear 31 = .ok (.bipush (-2), 2) := by decide +kernel
theorem dX5_swear_33 : decode cX5_swear 33 = .ok (.ireturn, 1) := by decide +kernel
theorem dX5_move_0 : decode cX5_move 0 = .ok (.aload_n 0, 1) := by decide +kernel
theorem dX5_move_1 : decode cX5_move 1 = .ok (.getfield 48, 3) := by decide +kernel
theorem dX5_move_4 : decode cX5_move 4 = .ok (.iload_n 1, 1) := by decide +kernel
theorem dX5_move_5 : decode cX5_move 5 = .ok (.i2l, 1) := by decide +kernel
theorem dX5_move_6 : decode cX5_move 6 = .ok (.invokevirtual 83, 3) := by decide +kernel
theorem dX5_move_9 : decode cX5_move 9 = .ok (.ifCond .eq 27, 3) := by decide +kernel
theorem dX5_move_36 : decode cX5_move 36 = .ok (.bipush (-2), 2) := by decide +kernel
theorem dX5_move_38 : decode cX5_move 38 = .ok (.ireturn, 1) := by decide +kernel
theorem dX5_undo_0 : decode cX5_undo 0 = .ok (.aload_n 0, 1) := by decide +kernel
theorem dX5_undo_1 : decode cX5_undo 1 = .ok (.getfield 48, 3) := by decide +kernel
theorem dX5_undo_4 : decode cX5_undo 4 = .ok (.invokevirtual 115, 3) := by decide +kernel
theorem dX5_undo_7 : decode cX5_undo 7 = .ok (.ifCond .ne 6, 3) := by decide +kernel
theorem dX5_undo_10 : decode cX5_undo 10 = .ok (.bipush (-2), 2) := by decide +kernel
theorem dX5_undo_12 : decode cX5_undo 12 = .ok (.ireturn, 1) := by decide +kernel
theorem dX5_anew_0 : decode cX5_anew 0 = .ok (.aload_n 0, 1) := by decide +kernel
theorem dX5_anew_1 : decode cX5_anew 1 = .ok (.getfield 48, 3) := by decide +kernel
theorem dX5_anew_4 : decode cX5_anew 4 = .ok (.invokevirtual 115, 3) := by decide +kernel
theorem dX5_anew_7 : decode cX5_anew 7 = .ok (.ifCond .ne 6, 3) := by decide +kernel
theorem dX5_anew_10 : decode cX5_anew 10 = .ok (.bipush (-2), 2) := by decide +kernel
theorem dX5_anew_12 : decode cX5_anew 12 = .ok (.ireturn, 1) := by decide +kernel
theorem dX5_tell_0 : decode cX5_tell 0 = .ok (.aload_n 0, 1) := by decide +kernel
theorem dX5_tell_1 : decode cX5_tell 1 = .ok (.getfield 48, 3) := by decide +kernel
theorem dX5_tell_4 : decode cX5_tell 4 = .ok (.invokevirtual 115, 3) := by decide +kernel
theorem dX5_tell_7 : decode cX5_tell 7 = .ok (.ifCond .eq 12, 3) := by decide +kernel
theorem dX5_tell_19 : decode cX5_tell 19 = .ok (.bipush (-2), 2) := by decide +kernel
theorem dX5_tell_21 : decode cX5_tell 21 = .ok (.ireturn, 1) := by decide +kernel
theorem dX5_count_0 : decode cX5_count 0 = .ok (.iload_n 1, 1) := by decide +kernel
theorem dX5_count_1 : decode cX5_count 1 = .ok (.ifCond .lt 19, 3) := by decide +kernel
theorem dX5_count_4 : decode cX5_count 4 = .ok (.iload_n 1, 1) := by decide +kernel
theorem dX5_count_5 : decode cX5_count 5 = .ok (.bipush 7, 2) := by decide +kernel
theorem dX5_count_7 : decode cX5_count 7 = .ok (.if_icmp .ge 13, 3) := by decide +kernel
theorem dX5_count_10 : decode cX5_count 10 = .ok (.aload_n 0, 1) := by decide +kernel
theorem dX5_count_11 : decode cX5_count 11 = .ok (.getfield 48, 3) := by decide +kernel
theorem dX5_count_14 : decode cX5_count 14 = .ok (.getfield 311, 3) := by decide +kernel
theorem dX5_count_17 : decode cX5_count 17 = .ok (.iload_n 1, 1) := by decide +kernel
theorem dX5_count_18 : decode cX5_count 18 = .ok (.iaload, 1) := by decide +kernel
theorem dX5_count_19 : decode cX5_count 19 = .ok (.ireturn, 1) := by decide +kernel
theorem dX5_count_20 : decode cX5_count 20 = .ok (.iload_n 1, 1) := by decide +kernel
theorem dX5_count_21 : decode cX5_count 21 = .ok (.tableswitch 75 7 11 #[35, 43, 51, 59, 67], 35) := by decide +kernel
theorem dX5_count_56 : decode cX5_count 56 = .ok (.aload_n 0, 1) := by decide +kernel
theorem dX5_count_57 : decode cX5_count 57 = .ok (.getfield 48, 3) := by decide +kernel
theorem dX5_count_60 : decode cX5_count 60 = .ok (.getfield 140, 3) := by decide +kernel
theorem dX5_count_63 : decode cX5_count 63 = .ok (.ireturn, 1) := by decide +kernel
theorem dX5_count_64 : decode cX5_count 64 = .ok (.aload_n 0, 1) := by decide +kernel
theorem dX5_count_65 : decode cX5_count 65 = .ok (.getfield 48, 3) := by decide +kernel
theorem dX5_count_68 : decode cX5_count 68 = .ok (.getfield 293, 3) := by decide +kernel
theorem dX5_count_71 : decode cX5_count 71 = .ok (.ireturn, 1) := by decide +kernel
theorem dX5_count_72 : decode cX5_count 72 = .ok (.aload_n 0, 1) := by decide +kernel
theorem dX5_count_73 : decode cX5_count 73 = .ok (.getfield 48, 3) := by decide +kernel
theorem dX5_count_76 : decode cX5_count 76 = .ok (.getfield 74, 3) := by decide +kernel
theorem dX5_count_79 : decode cX5_count 79 = .ok (.ireturn, 1) := by decide +kernel
theorem dX5_count_80 : decode cX5_count 80 = .ok (.aload_n 0, 1) := by decide +kernel
theorem dX5_count_81 : decode cX5_count 81 = .ok (.getfield 10, 3) := by decide +kernel
theorem dX5_count_84 : decode cX5_count 84 = .ok (.getfield 63, 3) := by decide +kernel
theorem dX5_count_87 : decode cX5_count 87 = .ok (.ireturn, 1) := by decide +kernel
theorem dX5_count_88 : decode cX5_count 88 = .ok (.aload_n 0, 1) := by decide +kernel
theorem dX5_count_89 : decode cX5_count 89 = .ok (.getfield 19, 3) := by decide +kernel
theorem dX5_count_92 : decode cX5_count 92 = .ok (.invokevirtual 314, 3) := by decide +kernel
theorem dX5_count_95 : decode cX5_count 95 = .ok (.ireturn, 1) := by decide +kernel
theorem dX5_count_96 : decode cX5_count 96 = .ok (.iconst (-1), 1) := by decide +kernel
theorem dX5_count_97 : decode cX5_count 97 = .ok (.ireturn, 1) := by decide +kernel
theorem dX5_image_0 : decode cX5_image 0 = .ok (.iload_n 1, 1) := by decide +kernel
theorem dX5_image_1 : decode cX5_image 1 = .ok (.ifCond .lt 8, 3) := by decide +kernel
theorem dX5_image_4 : decode cX5_image 4 = .ok (.iload_n 1, 1) := by decide +kernel
theorem dX5_image_5 : decode cX5_image 5 = .ok (.iconst 3, 1) := by decide +kernel
theorem dX5_image_6 : decode cX5_image 6 = .ok (.if_icmp .lt 6, 3) := by decide +kernel
theorem dX5_image_9 : decode cX5_image 9 = .ok (.bipush (-2), 2) := by decide +kernel
theorem dX5_image_11 : decode cX5_image 11 = .ok (.ireturn, 1) := by decide +kernel
theorem dX5_image_12 : decode cX5_image 12 = .ok (.aload_n 0, 1) := by decide +kernel
theorem dX5_image_13 : decode cX5_image 13 = .ok (.getfield 39, 3) := by decide +kernel
theorem dX5_image_16 : decode cX5_image 16 = .ok (.iload_n 1, 1) := by decide +kernel
theorem dX5_image_17 : decode cX5_image 17 = .ok (.aaload, 1) := by decide +kernel
theorem dX5_image_18 : decode cX5_image 18 = .ok (.aload_n 0, 1) := by decide +kernel
theorem dX5_image_19 : decode cX5_image 19 = .ok (.getfield 48, 3) := by decide +kernel
theorem dX5_image_22 : decode cX5_image 22 = .ok (.invokevirtual 317, 3) := by decide +kernel
theorem dX5_image_25 : decode cX5_image 25 = .ok (.aload_n 0, 1) := by decide +kernel
theorem dX5_image_26 : decode cX5_image 26 = .ok (.getfield 43, 3) := by decide +kernel
theorem dX5_image_29 : decode cX5_image 29 = .ok (.iload_n 1, 1) := by decide +kernel
theorem dX5_image_30 : decode cX5_image 30 = .ok (.iconst 1, 1) := by decide +kernel
theorem dX5_image_31 : decode cX5_image 31 = .ok (.bastore, 1) := by decide +kernel
theorem dX5_image_32 : decode cX5_image 32 = .ok (.iconst 0, 1) := by decide +kernel
theorem dX5_image_33 : decode cX5_image 33 = .ok (.ireturn, 1) := by decide +kernel
theorem dX5_back_0 : decode cX5_back 0 = .ok (.iload_n 1, 1) := by decide +kernel
theorem dX5_back_1 : decode cX5_back 1 = .ok (.ifCond .lt 8, 3) := by decide +kernel
theorem dX5_back_4 : decode cX5_back 4 = .ok (.iload_n 1, 1) := by decide +kernel
theorem dX5_back_5 : decode cX5_back 5 = .ok (.iconst 3, 1) := by decide +kernel
theorem dX5_back_6 : decode cX5_back 6 = .ok (.if_icmp .lt 6, 3) := by decide +kernel
theorem dX5_back_9 : decode cX5_back 9 = .ok (.bipush (-2), 2) := by decide +kernel
theorem dX5_back_11 : decode cX5_back 11 = .ok (.ireturn, 1) := by decide +kernel
theorem dX5_back_12 : decode cX5_back 12 = .ok (.aload_n 0, 1) := by decide +kernel
theorem dX5_back_13 : decode cX5_back 13 = .ok (.getfield 43, 3) := by decide +kernel
theorem dX5_back_16 : decode cX5_back 16 = .ok (.iload_n 1, 1) := by decide +kernel
theorem dX5_back_17 : decode cX5_back 17 = .ok (.baload, 1) := by decide +kernel
theorem dX5_back_18 : decode cX5_back 18 = .ok (.ifCond .ne 6, 3) := by decide +kernel
theorem dX5_back_21 : decode cX5_back 21 = .ok (.bipush (-6), 2) := by decide +kernel
theorem dX5_back_23 : decode cX5_back 23 = .ok (.ireturn, 1) := by decide +kernel
theorem dX5_row_0 : decode cX5_row 0 = .ok (.aload_n 0, 1) := by decide +kernel
theorem dX5_row_1 : decode cX5_row 1 = .ok (.getfield 19, 3) := by decide +kernel
theorem dX5_row_4 : decode cX5_row 4 = .ok (.iload_n 1, 1) := by decide +kernel
theorem dX5_row_5 : decode cX5_row 5 = .ok (.invokevirtual 321, 3) := by decide +kernel
theorem dX5_row_8 : decode cX5_row 8 = .ok (.ifCond .eq 18, 3) := by decide +kernel
theorem dX5_row_11 : decode cX5_row 11 = .ok (.iload_n 2, 1) := by decide +kernel
theorem dX5_row_12 : decode cX5_row 12 = .ok (.ifCond .lt 14, 3) := by decide +kernel
theorem dX5_row_15 : decode cX5_row 15 = .ok (.iload_n 2, 1) := by decide +kernel
theorem dX5_row_16 : decode cX5_row 16 = .ok (.iconst 3, 1) := by decide +kernel
theorem dX5_row_17 : decode cX5_row 17 = .ok (.if_icmp .gt 9, 3) := by decide +kernel
theorem dX5_row_20 : decode cX5_row 20 = .ok (.iload_n 3, 1) := by decide +kernel
theorem dX5_row_21 : decode cX5_row 21 = .ok (.bipush 60, 2) := by decide +kernel
theorem dX5_row_23 : decode cX5_row 23 = .ok (.if_icmp .le 6, 3) := by decide +kernel
theorem dX5_row_26 : decode cX5_row 26 = .ok (.bipush (-2), 2) := by decide +kernel
theorem dX5_row_28 : decode cX5_row 28 = .ok (.ireturn, 1) := by decide +kernel
theorem dX5_row_29 : decode cX5_row 29 = .ok (.iload_n 3, 1) := by decide +kernel
theorem dX5_row_30 : decode cX5_row 30 = .ok (.ifCond .ge 6, 3) := by decide +kernel
theorem dX5_row_33 : decode cX5_row 33 = .ok (.bipush (-3), 2) := by decide +kernel
theorem dX5_row_35 : decode cX5_row 35 = .ok (.ireturn, 1) := by decide +kernel
theorem dX5_row_36 : decode cX5_row 36 = .ok (.aload_n 0, 1) := by decide +kernel
theorem dX5_row_37 : decode cX5_row 37 = .ok (.getfield 19, 3) := by decide +kernel
theorem dX5_row_40 : decode cX5_row 40 = .ok (.iload_n 1, 1) := by decide +kernel
theorem dX5_row_41 : decode cX5_row 41 = .ok (.iload_n 2, 1) := by decide +kernel
theorem dX5_row_42 : decode cX5_row 42 = .ok (.iload_n 3, 1) := by decide +kernel
theorem dX5_row_43 : decode cX5_row 43 = .ok (.invokevirtual 324, 3) := by decide +kernel
theorem dX5_row_46 : decode cX5_row 46 = .ok (.iconst 0, 1) := by decide +kernel
theorem dX5_row_47 : decode cX5_row 47 = .ok (.ireturn, 1) := by decide +kernel
theorem dX5_write_0 : decode cX5_write 0 = .ok (.aload_n 0, 1) := by decide +kernel
theorem dX5_write_1 : decode cX5_write 1 = .ok (.getfield 19, 3) := by decide +kernel
theorem dX5_write_4 : decode cX5_write 4 = .ok (.iload_n 1, 1) := by decide +kernel
theorem dX5_write_5 : decode cX5_write 5 = .ok (.invokevirtual 321, 3) := by decide +kernel
theorem dX5_write_8 : decode cX5_write 8 = .ok (.ifCond .ne 6, 3) := by decide +kernel
theorem dX5_write_11 : decode cX5_write 11 = .ok (.bipush (-2), 2) := by decide +kernel
theorem dX5_write_13 : decode cX5_write 13 = .ok (.ireturn, 1) := by decide +kernel
theorem dX5_write_14 : decode cX5_write 14 = .ok (.aload_n 0, 1) := by decide +kernel
theorem dX5_write_15 : decode cX5_write 15 = .ok (.getfield 19, 3) := by decide +kernel
theorem dX5_write_18 : decode cX5_write 18 = .ok (.iload_n 1, 1) := by decide +kernel
theorem dX5_write_19 : decode cX5_write 19 = .ok (.invokevirtual 328, 3) := by decide +kernel
theorem dX5_write_22 : decode cX5_write 22 = .ok (.ifCond .ne 6, 3) := by decide +kernel
theorem dX5_write_25 : decode cX5_write 25 = .ok (.bipush (-6), 2) := by decide +kernel
theorem dX5_write_27 : decode cX5_write 27 = .ok (.ireturn, 1) := by decide +kernel
theorem dX5_paste_0 : decode cX5_paste 0 = .ok (.aload_n 0, 1) := by decide +kernel
theorem dX5_paste_1 : decode cX5_paste 1 = .ok (.getfield 19, 3) := by decide +kernel
theorem dX5_paste_4 : decode cX5_paste 4 = .ok (.iload_n 1, 1) := by decide +kernel
theorem dX5_paste_5 : decode cX5_paste 5 = .ok (.invokevirtual 321, 3) := by decide +kernel
theorem dX5_paste_8 : decode cX5_paste 8 = .ok (.ifCond .eq 14, 3) := by decide +kernel
theorem dX5_paste_11 : decode cX5_paste 11 = .ok (.aload_n 0, 1) := by decide +kernel
theorem dX5_paste_12 : decode cX5_paste 12 = .ok (.getfield 19, 3) := by decide +kernel
theorem dX5_paste_15 : decode cX5_paste 15 = .ok (.iload_n 3, 1) := by decide +kernel
theorem dX5_paste_16 : decode cX5_paste 16 = .ok (.invokevirtual 321, 3) := by decide +kernel
theorem dX5_paste_19 : decode cX5_paste 19 = .ok (.ifCond .ne 6, 3) := by decide +kernel
theorem dX5_paste_22 : decode cX5_paste 22 = .ok (.bipush (-2), 2) := by decide +kernel
theorem dX5_paste_24 : decode cX5_paste 24 = .ok (.ireturn, 1) := by decide +kernel
theorem dX5_paste_25 : decode cX5_paste 25 = .ok (.aload_n 0, 1) := by decide +kernel
theorem dX5_paste_26 : decode cX5_paste 26 = .ok (.getfield 19, 3) := by decide +kernel
theorem dX5_paste_29 : decode cX5_paste 29 = .ok (.iload_n 1, 1) := by decide +kernel
theorem dX5_paste_30 : decode cX5_paste 30 = .ok (.invokevirtual 328, 3) := by decide +kernel
theorem dX5_paste_33 : decode cX5_paste 33 = .ok (.ifCond .eq 14, 3) := by decide +kernel
theorem dX5_paste_47 : decode cX5_paste 47 = .ok (.bipush (-6), 2) := by decide +kernel
theorem dX5_paste_49 : decode cX5_paste 49 = .ok (.ireturn, 1) := by decide +kernel
theorem dX5_lookAnew_0 : decode cX5_lookAnew 0 = .ok (.aload_n 0, 1) := by decide +kernel
theorem dX5_lookAnew_1 : decode cX5_lookAnew 1 = .ok (.getfield 48, 3) := by decide +kernel
theorem dX5_lookAnew_4 : decode cX5_lookAnew 4 = .ok (.invokevirtual 345, 3) := by decide +kernel
theorem dX5_lookAnew_7 : decode cX5_lookAnew 7 = .ok (.aload_n 0, 1) := by decide +kernel
theorem dX5_lookAnew_8 : decode cX5_lookAnew 8 = .ok (.getfield 26, 3) := by decide +kernel
theorem dX5_lookAnew_11 : decode cX5_lookAnew 11 = .ok (.iconst 0, 1) := by decide +kernel
theorem dX5_lookAnew_12 : decode cX5_lookAnew 12 = .ok (.putfield 348, 3) := by decide +kernel
theorem dX5_lookAnew_15 : decode cX5_lookAnew 15 = .ok (.return_, 1) := by decide +kernel
theorem dX5_refuseRow_0 : decode cX5_refuseRow 0 = .ok (.aload_n 0, 1) := by decide +kernel
theorem dX5_refuseRow_1 : decode cX5_refuseRow 1 = .ok (.getfield 19, 3) := by decide +kernel
theorem dX5_refuseRow_4 : decode cX5_refuseRow 4 = .ok (.iload_n 1, 1) := by decide +kernel
theorem dX5_refuseRow_5 : decode cX5_refuseRow 5 = .ok (.invokevirtual 321, 3) := by decide +kernel
theorem dX5_refuseRow_8 : decode cX5_refuseRow 8 = .ok (.ifCond .eq 13, 3) := by decide +kernel
theorem dX5_refuseRow_11 : decode cX5_refuseRow 11 = .ok (.aload_n 0, 1) := by decide +kernel
theorem dX5_refuseRow_12 : decode cX5_refuseRow 12 = .ok (.getfield 48, 3) := by decide +kernel
theorem dX5_refuseRow_15 : decode cX5_refuseRow 15 = .ok (.invokevirtual 115, 3) := by decide +kernel
theorem dX5_refuseRow_18 : decode cX5_refuseRow 18 = .ok (.ifCond .ne 6, 3) := by decide +kernel
theorem dX5_refuseRow_21 : decode cX5_refuseRow 21 = .ok (.bipush (-2), 2) := by decide +kernel
theorem dX5_refuseRow_23 : decode cX5_refuseRow 23 = .ok (.ireturn, 1) := by decide +kernel
theorem dX5_refuseDeeds_0 : decode cX5_refuseDeeds 0 = .ok (.aload_n 0, 1) := by decide +kernel
theorem dX5_refuseDeeds_1 : decode cX5_refuseDeeds 1 = .ok (.iload_n 1, 1) := by decide +kernel
theorem dX5_refuseDeeds_2 : decode cX5_refuseDeeds 2 = .ok (.iconst 2, 1) := by decide +kernel
theorem dX5_refuseDeeds_3 : decode cX5_refuseDeeds 3 = .ok (.invokevirtual 355, 3) := by decide +kernel
theorem dX5_refuseDeeds_6 : decode cX5_refuseDeeds 6 = .ok (.istore_n 2, 1) := by decide +kernel
theorem dX5_refuseDeeds_7 : decode cX5_refuseDeeds 7 = .ok (.iload_n 2, 1) := by decide +kernel
theorem dX5_refuseDeeds_8 : decode cX5_refuseDeeds 8 = .ok (.ifCond .eq 5, 3) := by decide +kernel
theorem dX5_refuseDeeds_11 : decode cX5_refuseDeeds 11 = .ok (.iload_n 2, 1) := by decide +kernel
theorem dX5_refuseDeeds_12 : decode cX5_refuseDeeds 12 = .ok (.ireturn, 1) := by decide +kernel
theorem dX5_refuseOaths_0 : decode cX5_refuseOaths 0 = .ok (.aload_n 0, 1) := by decide +kernel
theorem dX5_refuseOaths_1 : decode cX5_refuseOaths 1 = .ok (.iload_n 1, 1) := by decide +kernel
theorem dX5_refuseOaths_2 : decode cX5_refuseOaths 2 = .ok (.iconst 3, 1) := by decide +kernel
theorem dX5_refuseOaths_3 : decode cX5_refuseOaths 3 = .ok (.invokevirtual 355, 3) := by decide +kernel
theorem dX5_refuseOaths_6 : decode cX5_refuseOaths 6 = .ok (.istore_n 2, 1) := by decide +kernel
theorem dX5_refuseOaths_7 : decode cX5_refuseOaths 7 = .ok (.iload_n 2, 1) := by decide +kernel
