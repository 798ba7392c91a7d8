theorem dX6_alone_14 : decode cX6_alone 14 = .ok (.bipush (-2), 2) := by decide +kernel
theorem dX6_alone_16 : decode cX6_alone 16 = .ok (.ireturn, 1) := by decide +kernel
theorem dX6_all_0 : decode cX6_all 0 = .ok (.aload_n 0, 1) := by decide +kernel
theorem dX6_all_1 : decode cX6_all 1 = .ok (.iconst 0, 1) := by decide +kernel
theorem dX6_all_2 : decode cX6_all 2 = .ok (.putfield 71, 3) := by decide +kernel
theorem dX6_all_5 : decode cX6_all 5 = .ok (.aload_n 0, 1) := by decide +kernel
theorem dX6_all_6 : decode cX6_all 6 = .ok (.invokevirtual 276, 3) := by decide +kernel
theorem dX6_all_9 : decode cX6_all 9 = .ok (.ifCond .ne 6, 3) := by decide +kernel
theorem dX6_all_12 : decode cX6_all 12 = .ok (.bipush (-2), 2) := by decide +kernel
theorem dX6_all_14 : decode cX6_all 14 = .ok (.ireturn, 1) := by decide +kernel
theorem dX6_longest_0 : decode cX6_longest 0 = .ok (.aload_n 0, 1) := by decide +kernel
theorem dX6_longest_1 : decode cX6_longest 1 = .ok (.iconst 0, 1) := by decide +kernel
theorem dX6_longest_2 : decode cX6_longest 2 = .ok (.putfield 71, 3) := by decide +kernel
theorem dX6_longest_5 : decode cX6_longest 5 = .ok (.aload_n 0, 1) := by decide +kernel
theorem dX6_longest_6 : decode cX6_longest 6 = .ok (.iload_n 1, 1) := by decide +kernel
theorem dX6_longest_7 : decode cX6_longest 7 = .ok (.i2l, 1) := by decide +kernel
theorem dX6_longest_8 : decode cX6_longest 8 = .ok (.invokevirtual 234, 3) := by decide +kernel
theorem dX6_longest_11 : decode cX6_longest 11 = .ok (.ifCond .ne 6, 3) := by decide +kernel
theorem dX6_longest_14 : decode cX6_longest 14 = .ok (.bipush (-2), 2) := by decide +kernel
theorem dX6_longest_16 : decode cX6_longest 16 = .ok (.ireturn, 1) := by decide +kernel
theorem dX6_fine_0 : decode cX6_fine 0 = .ok (.aload_n 0, 1) := by decide +kernel
theorem dX6_fine_1 : decode cX6_fine 1 = .ok (.iconst 0, 1) := by decide +kernel
theorem dX6_fine_2 : decode cX6_fine 2 = .ok (.putfield 71, 3) := by decide +kernel
theorem dX6_fine_5 : decode cX6_fine 5 = .ok (.aload_n 0, 1) := by decide +kernel
theorem dX6_fine_6 : decode cX6_fine 6 = .ok (.iload_n 1, 1) := by decide +kernel
theorem dX6_fine_7 : decode cX6_fine 7 = .ok (.i2l, 1) := by decide +kernel
theorem dX6_fine_8 : decode cX6_fine 8 = .ok (.invokevirtual 234, 3) := by decide +kernel
theorem dX6_fine_11 : decode cX6_fine 11 = .ok (.ifCond .ne 6, 3) := by decide +kernel
theorem dX6_fine_14 : decode cX6_fine 14 = .ok (.bipush (-2), 2) := by decide +kernel
theorem dX6_fine_16 : decode cX6_fine 16 = .ok (.ireturn, 1) := by decide +kernel
theorem dX6_worst_0 : decode cX6_worst 0 = .ok (.aload_n 0, 1) := by decide +kernel
theorem dX6_worst_1 : decode cX6_worst 1 = .ok (.iconst 0, 1) := by decide +kernel
theorem dX6_worst_2 : decode cX6_worst 2 = .ok (.putfield 71, 3) := by decide +kernel
theorem dX6_worst_5 : decode cX6_worst 5 = .ok (.aload_n 0, 1) := by decide +kernel
theorem dX6_worst_6 : decode cX6_worst 6 = .ok (.invokevirtual 276, 3) := by decide +kernel
theorem dX6_worst_9 : decode cX6_worst 9 = .ok (.ifCond .ne 6, 3) := by decide +kernel
theorem dX6_worst_12 : decode cX6_worst 12 = .ok (.bipush (-2), 2) := by decide +kernel
theorem dX6_worst_14 : decode cX6_worst 14 = .ok (.ireturn, 1) := by decide +kernel
theorem dX6_unsworn_0 : decode cX6_unsworn 0 = .ok (.aload_n 0, 1) := by decide +kernel
theorem dX6_unsworn_1 : decode cX6_unsworn 1 = .ok (.iconst 0, 1) := by decide +kernel
theorem dX6_unsworn_2 : decode cX6_unsworn 2 = .ok (.putfield 71, 3) := by decide +kernel
theorem dX6_unsworn_5 : decode cX6_unsworn 5 = .ok (.aload_n 0, 1) := by decide +kernel
theorem dX6_unsworn_6 : decode cX6_unsworn 6 = .ok (.invokevirtual 276, 3) := by decide +kernel
theorem dX6_unsworn_9 : decode cX6_unsworn 9 = .ok (.ifCond .ne 6, 3) := by decide +kernel
theorem dX6_unsworn_12 : decode cX6_unsworn 12 = .ok (.bipush (-2), 2) := by decide +kernel
theorem dX6_unsworn_14 : decode cX6_unsworn 14 = .ok (.ireturn, 1) := by decide +kernel
theorem dX6_rings_0 : decode cX6_rings 0 = .ok (.aload_n 0, 1) := by decide +kernel
theorem dX6_rings_1 : decode cX6_rings 1 = .ok (.iconst 0, 1) := by decide +kernel
theorem dX6_rings_2 : decode cX6_rings 2 = .ok (.putfield 71, 3) := by decide +kernel
theorem dX6_rings_5 : decode cX6_rings 5 = .ok (.aload_n 0, 1) := by decide +kernel
theorem dX6_rings_6 : decode cX6_rings 6 = .ok (.invokevirtual 276, 3) := by decide +kernel
theorem dX6_rings_9 : decode cX6_rings 9 = .ok (.ifCond .ne 6, 3) := by decide +kernel
theorem dX6_rings_12 : decode cX6_rings 12 = .ok (.bipush (-2), 2) := by decide +kernel
theorem dX6_rings_14 : decode cX6_rings 14 = .ok (.ireturn, 1) := by decide +kernel
theorem dX6_ring_0 : decode cX6_ring 0 = .ok (.aload_n 0, 1) := by decide +kernel
theorem dX6_ring_1 : decode cX6_ring 1 = .ok (.iconst 0, 1) := by decide +kernel
theorem dX6_ring_2 : decode cX6_ring 2 = .ok (.putfield 71, 3) := by decide +kernel
theorem dX6_ring_5 : decode cX6_ring 5 = .ok (.aload_n 0, 1) := by decide +kernel
theorem dX6_ring_6 : decode cX6_ring 6 = .ok (.iload_n 1, 1) := by decide +kernel
theorem dX6_ring_7 : decode cX6_ring 7 = .ok (.i2l, 1) := by decide +kernel
theorem dX6_ring_8 : decode cX6_ring 8 = .ok (.invokevirtual 234, 3) := by decide +kernel
theorem dX6_ring_11 : decode cX6_ring 11 = .ok (.ifCond .ne 6, 3) := by decide +kernel
theorem dX6_ring_14 : decode cX6_ring 14 = .ok (.bipush (-2), 2) := by decide +kernel
theorem dX6_ring_16 : decode cX6_ring 16 = .ok (.ireturn, 1) := by decide +kernel
theorem dX6_chain_0 : decode cX6_chain 0 = .ok (.aload_n 0, 1) := by decide +kernel
theorem dX6_chain_1 : decode cX6_chain 1 = .ok (.iconst 0, 1) := by decide +kernel
theorem dX6_chain_2 : decode cX6_chain 2 = .ok (.putfield 71, 3) := by decide +kernel
theorem dX6_chain_5 : decode cX6_chain 5 = .ok (.aload_n 0, 1) := by decide +kernel
theorem dX6_chain_6 : decode cX6_chain 6 = .ok (.iload_n 1, 1) := by decide +kernel
theorem dX6_chain_7 : decode cX6_chain 7 = .ok (.i2l, 1) := by decide +kernel
theorem dX6_chain_8 : decode cX6_chain 8 = .ok (.invokevirtual 234, 3) := by decide +kernel
theorem dX6_chain_11 : decode cX6_chain 11 = .ok (.ifCond .ne 6, 3) := by decide +kernel
theorem dX6_chain_14 : decode cX6_chain 14 = .ok (.bipush (-2), 2) := by decide +kernel
theorem dX6_chain_16 : decode cX6_chain 16 = .ok (.ireturn, 1) := by decide +kernel
theorem dX6_best_0 : decode cX6_best 0 = .ok (.aload_n 0, 1) := by decide +kernel
theorem dX6_best_1 : decode cX6_best 1 = .ok (.iconst 0, 1) := by decide +kernel
theorem dX6_best_2 : decode cX6_best 2 = .ok (.putfield 71, 3) := by decide +kernel
theorem dX6_best_5 : decode cX6_best 5 = .ok (.aload_n 0, 1) := by decide +kernel
theorem dX6_best_6 : decode cX6_best 6 = .ok (.invokevirtual 276, 3) := by decide +kernel
theorem dX6_best_9 : decode cX6_best 9 = .ok (.ifCond .ne 6, 3) := by decide +kernel
theorem dX6_best_12 : decode cX6_best 12 = .ok (.bipush (-2), 2) := by decide +kernel
theorem dX6_best_14 : decode cX6_best 14 = .ok (.ireturn, 1) := by decide +kernel
theorem dX6_rota_0 : decode cX6_rota 0 = .ok (.aload_n 0, 1) := by decide +kernel
theorem dX6_rota_1 : decode cX6_rota 1 = .ok (.iconst 0, 1) := by decide +kernel
theorem dX6_rota_2 : decode cX6_rota 2 = .ok (.putfield 71, 3) := by decide +kernel
theorem dX6_rota_5 : decode cX6_rota 5 = .ok (.aload_n 0, 1) := by decide +kernel
theorem dX6_rota_6 : decode cX6_rota 6 = .ok (.iload_n 1, 1) := by decide +kernel
theorem dX6_rota_7 : decode cX6_rota 7 = .ok (.i2l, 1) := by decide +kernel
theorem dX6_rota_8 : decode cX6_rota 8 = .ok (.invokevirtual 234, 3) := by decide +kernel
theorem dX6_rota_11 : decode cX6_rota 11 = .ok (.ifCond .ne 6, 3) := by decide +kernel
theorem dX6_rota_14 : decode cX6_rota 14 = .ok (.bipush (-2), 2) := by decide +kernel
theorem dX6_rota_16 : decode cX6_rota 16 = .ok (.ireturn, 1) := by decide +kernel
theorem dX6_ways_0 : decode cX6_ways 0 = .ok (.aload_n 0, 1) := by decide +kernel
theorem dX6_ways_1 : decode cX6_ways 1 = .ok (.iconst 0, 1) := by decide +kernel
theorem dX6_ways_2 : decode cX6_ways 2 = .ok (.putfield 71, 3) := by decide +kernel
theorem dX6_ways_5 : decode cX6_ways 5 = .ok (.aload_n 0, 1) := by decide +kernel
theorem dX6_ways_6 : decode cX6_ways 6 = .ok (.invokevirtual 276, 3) := by decide +kernel
theorem dX6_ways_9 : decode cX6_ways 9 = .ok (.ifCond .ne 6, 3) := by decide +kernel
theorem dX6_ways_12 : decode cX6_ways 12 = .ok (.bipush (-2), 2) := by decide +kernel
theorem dX6_ways_14 : decode cX6_ways 14 = .ok (.ireturn, 1) := by decide +kernel
theorem dX6_fair_0 : decode cX6_fair 0 = .ok (.aload_n 0, 1) := by decide +kernel
theorem dX6_fair_1 : decode cX6_fair 1 = .ok (.iconst 0, 1) := by decide +kernel
theorem dX6_fair_2 : decode cX6_fair 2 = .ok (.putfield 71, 3) := by decide +kernel
theorem dX6_fair_5 : decode cX6_fair 5 = .ok (.aload_n 0, 1) := by decide +kernel
theorem dX6_fair_6 : decode cX6_fair 6 = .ok (.invokevirtual 276, 3) := by decide +kernel
theorem dX6_fair_9 : decode cX6_fair 9 = .ok (.ifCond .ne 6, 3) := by decide +kernel
theorem dX6_fair_12 : decode cX6_fair 12 = .ok (.bipush (-2), 2) := by decide +kernel
theorem dX6_fair_14 : decode cX6_fair 14 = .ok (.ireturn, 1) := by decide +kernel
theorem dX6_clean_0 : decode cX6_clean 0 = .ok (.aload_n 0, 1) := by decide +kernel
theorem dX6_clean_1 : decode cX6_clean 1 = .ok (.iconst 0, 1) := by decide +kernel
theorem dX6_clean_2 : decode cX6_clean 2 = .ok (.putfield 71, 3) := by decide +kernel
theorem dX6_clean_5 : decode cX6_clean 5 = .ok (.aload_n 0, 1) := by decide +kernel
theorem dX6_clean_6 : decode cX6_clean 6 = .ok (.invokevirtual 276, 3) := by decide +kernel
theorem dX6_clean_9 : decode cX6_clean 9 = .ok (.ifCond .ne 6, 3) := by decide +kernel
theorem dX6_clean_12 : decode cX6_clean 12 = .ok (.bipush (-2), 2) := by decide +kernel
theorem dX6_clean_14 : decode cX6_clean 14 = .ok (.ireturn, 1) := by decide +kernel
theorem dX6_trade_0 : decode cX6_trade 0 = .ok (.aload_n 0, 1) := by decide +kernel
theorem dX6_trade_1 : decode cX6_trade 1 = .ok (.iconst 0, 1) := by decide +kernel
theorem dX6_trade_2 : decode cX6_trade 2 = .ok (.putfield 71, 3) := by decide +kernel
theorem dX6_trade_5 : decode cX6_trade 5 = .ok (.aload_n 0, 1) := by decide +kernel
theorem dX6_trade_6 : decode cX6_trade 6 = .ok (.invokevirtual 276, 3) := by decide +kernel
theorem dX6_trade_9 : decode cX6_trade 9 = .ok (.ifCond .ne 6, 3) := by decide +kernel
theorem dX6_trade_12 : decode cX6_trade 12 = .ok (.bipush (-2), 2) := by decide +kernel
theorem dX6_trade_14 : decode cX6_trade 14 = .ok (.ireturn, 1) := by decide +kernel
theorem dX6_envy_0 : decode cX6_envy 0 = .ok (.aload_n 0, 1) := by decide +kernel
theorem dX6_envy_1 : decode cX6_envy 1 = .ok (.iconst 0, 1) := by decide +kernel
theorem dX6_envy_2 : decode cX6_envy 2 = .ok (.putfield 71, 3) := by decide +kernel
theorem dX6_envy_5 : decode cX6_envy 5 = .ok (.aload_n 0, 1) := by decide +kernel
theorem dX6_envy_6 : decode cX6_envy 6 = .ok (.invokevirtual 276, 3) := by decide +kernel
theorem dX6_envy_9 : decode cX6_envy 9 = .ok (.ifCond .ne 6, 3) := by decide +kernel
theorem dX6_envy_12 : decode cX6_envy 12 = .ok (.bipush (-2), 2) := by decide +kernel
theorem dX6_envy_14 : decode cX6_envy 14 = .ok (.ireturn, 1) := by decide +kernel
theorem dX6_often_0 : decode cX6_often 0 = .ok (.aload_n 0, 1) := by decide +kernel
theorem dX6_often_1 : decode cX6_often 1 = .ok (.iconst 0, 1) := by decide +kernel
theorem dX6_often_2 : decode cX6_often 2 = .ok (.putfield 71, 3) := by decide +kernel
theorem dX6_often_5 : decode cX6_often 5 = .ok (.aload_n 0, 1) := by decide +kernel
theorem dX6_often_6 : decode cX6_often 6 = .ok (.iload_n 1, 1) := by decide +kernel
theorem dX6_often_7 : decode cX6_often 7 = .ok (.iload_n 2, 1) := by decide +kernel
theorem dX6_often_8 : decode cX6_often 8 = .ok (.invokevirtual 319, 3) := by decide +kernel
theorem dX6_often_11 : decode cX6_often 11 = .ok (.ifCond .ne 6, 3) := by decide +kernel
theorem dX6_often_14 : decode cX6_often 14 = .ok (.bipush (-2), 2) := by decide +kernel
theorem dX6_often_16 : decode cX6_often 16 = .ok (.ireturn, 1) := by decide +kernel
theorem dX6_friend_0 : decode cX6_friend 0 = .ok (.aload_n 0, 1) := by decide +kernel
theorem dX6_friend_1 : decode cX6_friend 1 = .ok (.iconst 0, 1) := by decide +kernel
theorem dX6_friend_2 : decode cX6_friend 2 = .ok (.putfield 71, 3) := by decide +kernel
theorem dX6_friend_5 : decode cX6_friend 5 = .ok (.aload_n 0, 1) := by decide +kernel
theorem dX6_friend_6 : decode cX6_friend 6 = .ok (.iload_n 1, 1) := by decide +kernel
theorem dX6_friend_7 : decode cX6_friend 7 = .ok (.i2l, 1) := by decide +kernel
theorem dX6_friend_8 : decode cX6_friend 8 = .ok (.invokevirtual 234, 3) := by decide +kernel
theorem dX6_friend_11 : decode cX6_friend 11 = .ok (.ifCond .ne 6, 3) := by decide +kernel
theorem dX6_friend_14 : decode cX6_friend 14 = .ok (.bipush (-2), 2) := by decide +kernel
theorem dX6_friend_16 : decode cX6_friend 16 = .ok (.ireturn, 1) := by decide +kernel
theorem dX6_witness_0 : decode cX6_witness 0 = .ok (.aload_n 0, 1) := by decide +kernel
theorem dX6_witness_1 : decode cX6_witness 1 = .ok (.iconst 0, 1) := by decide +kernel
theorem dX6_witness_2 : decode cX6_witness 2 = .ok (.putfield 71, 3) := by decide +kernel
theorem dX6_witness_5 : decode cX6_witness 5 = .ok (.aload_n 0, 1) := by decide +kernel
theorem dX6_witness_6 : decode cX6_witness 6 = .ok (.iload_n 1, 1) := by decide +kernel
theorem dX6_witness_7 : decode cX6_witness 7 = .ok (.i2l, 1) := by decide +kernel
theorem dX6_witness_8 : decode cX6_witness 8 = .ok (.invokevirtual 322, 3) := by decide +kernel
theorem dX6_witness_11 : decode cX6_witness 11 = .ok (.ifCond .eq 12, 3) := by decide +kernel
theorem dX6_witness_23 : decode cX6_witness 23 = .ok (.bipush (-2), 2) := by decide +kernel
theorem dX6_witness_25 : decode cX6_witness 25 = .ok (.ireturn, 1) := by decide +kernel
theorem dX6_dark_0 : decode cX6_dark 0 = .ok (.aload_n 0, 1) := by decide +kernel
theorem dX6_dark_1 : decode cX6_dark 1 = .ok (.iconst 0, 1) := by decide +kernel
theorem dX6_dark_2 : decode cX6_dark 2 = .ok (.putfield 71, 3) := by decide +kernel
theorem dX6_dark_5 : decode cX6_dark 5 = .ok (.aload_n 0, 1) := by decide +kernel
theorem dX6_dark_6 : decode cX6_dark 6 = .ok (.iload_n 1, 1) := by decide +kernel
theorem dX6_dark_7 : decode cX6_dark 7 = .ok (.i2l, 1) := by decide +kernel
theorem dX6_dark_8 : decode cX6_dark 8 = .ok (.invokevirtual 267, 3) := by decide +kernel
theorem dX6_dark_11 : decode cX6_dark 11 = .ok (.ifCond .ne 6, 3) := by decide +kernel
theorem dX6_dark_14 : decode cX6_dark 14 = .ok (.bipush (-2), 2) := by decide +kernel
theorem dX6_dark_16 : decode cX6_dark 16 = .ok (.ireturn, 1) := by decide +kernel
theorem dX6_crowd_0 : decode cX6_crowd 0 = .ok (.aload_n 0, 1) := by decide +kernel
theorem dX6_crowd_1 : decode cX6_crowd 1 = .ok (.iconst 0, 1) := by decide +kernel
theorem dX6_crowd_2 : decode cX6_crowd 2 = .ok (.putfield 71, 3) := by decide +kernel
theorem dX6_crowd_5 : decode cX6_crowd 5 = .ok (.aload_n 0, 1) := by decide +kernel
theorem dX6_crowd_6 : decode cX6_crowd 6 = .ok (.iload_n 1, 1) := by decide +kernel
theorem dX6_crowd_7 : decode cX6_crowd 7 = .ok (.i2l, 1) := by decide +kernel
theorem dX6_crowd_8 : decode cX6_crowd 8 = .ok (.invokevirtual 267, 3) := by decide +kernel
theorem dX6_crowd_11 : decode cX6_crowd 11 = .ok (.ifCond .ne 6, 3) := by decide +kernel
theorem dX6_crowd_14 : decode cX6_crowd 14 = .ok (.bipush (-2), 2) := by decide +kernel
theorem dX6_crowd_16 : decode cX6_crowd 16 = .ok (.ireturn, 1) := by decide +kernel
theorem dX6_busiest_0 : decode cX6_busiest 0 = .ok (.aload_n 0, 1) := by decide +kernel
theorem dX6_busiest_1 : decode cX6_busiest 1 = .ok (.iconst 0, 1) := by decide +kernel
theorem dX6_busiest_2 : decode cX6_busiest 2 = .ok (.putfield 71, 3) := by decide +kernel
theorem dX6_busiest_5 : decode cX6_busiest 5 = .ok (.aload_n 0, 1) := by decide +kernel
theorem dX6_busiest_6 : decode cX6_busiest 6 = .ok (.invokevirtual 276, 3) := by decide +kernel
theorem dX6_busiest_9 : decode cX6_busiest 9 = .ok (.ifCond .ne 6, 3) := by decide +kernel
theorem dX6_busiest_12 : decode cX6_busiest 12 = .ok (.bipush (-2), 2) := by decide +kernel
theorem dX6_busiest_14 : decode cX6_busiest 14 = .ok (.ireturn, 1) := by decide +kernel
theorem dX6_mutual_0 : decode cX6_mutual 0 = .ok (.aload_n 0, 1) := by decide +kernel
theorem dX6_mutual_1 : decode cX6_mutual 1 = .ok (.iconst 0, 1) := by decide +kernel
theorem dX6_mutual_2 : decode cX6_mutual 2 = .ok (.putfield 71, 3) := by decide +kernel
theorem dX6_mutual_5 : decode cX6_mutual 5 = .ok (.aload_n 0, 1) := by decide +kernel
theorem dX6_mutual_6 : decode cX6_mutual 6 = .ok (.invokevirtual 276, 3) := by decide +kernel
theorem dX6_mutual_9 : decode cX6_mutual 9 = .ok (.ifCond .ne 6, 3) := by decide +kernel
theorem dX6_mutual_12 : decode cX6_mutual 12 = .ok (.bipush (-2), 2) := by decide +kernel
theorem dX6_mutual_14 : decode cX6_mutual 14 = .ok (.ireturn, 1) := by decide +kernel
theorem dX6_homebody_0 : decode cX6_homebody 0 = .ok (.aload_n 0, 1) := by decide +kernel
theorem dX6_homebody_1 : decode cX6_homebody 1 = .ok (.iconst 0, 1) := by decide +kernel
theorem dX6_homebody_2 : decode cX6_homebody 2 = .ok (.putfield 71, 3) := by decide +kernel
theorem dX6_homebody_5 : decode cX6_homebody 5 = .ok (.aload_n 0, 1) := by decide +kernel
theorem dX6_homebody_6 : decode cX6_homebody 6 = .ok (.invokevirtual 276, 3) := by decide +kernel
theorem dX6_homebody_9 : decode cX6_homebody 9 = .ok (.ifCond .ne 6, 3) := by decide +kernel
theorem dX6_homebody_12 : decode cX6_homebody 12 = .ok (.bipush (-2), 2) := by decide +kernel
theorem dX6_homebody_14 : decode cX6_homebody 14 = .ok (.ireturn, 1) := by decide +kernel
theorem dX6_extra_0 : decode cX6_extra 0 = .ok (.aload_n 0, 1) := by decide +kernel
theorem dX6_extra_1 : decode cX6_extra 1 = .ok (.iconst 0, 1) := by decide +kernel
theorem dX6_extra_2 : decode cX6_extra 2 = .ok (.putfield 71, 3) := by decide +kernel
theorem dX6_extra_5 : decode cX6_extra 5 = .ok (.aload_n 0, 1) := by decide +kernel
theorem dX6_extra_6 : decode cX6_extra 6 = .ok (.invokevirtual 276, 3) := by decide +kernel
theorem dX6_extra_9 : decode cX6_extra 9 = .ok (.ifCond .ne 6, 3) := by decide +kernel
theorem dX6_extra_12 : decode cX6_extra 12 = .ok (.bipush (-2), 2) := by decide +kernel
theorem dX6_extra_14 : decode cX6_extra 14 = .ok (.ireturn, 1) := by decide +kernel
theorem dX6_tied_0 : decode cX6_tied 0 = .ok (.aload_n 0, 1) := by decide +kernel
theorem dX6_tied_1 : decode cX6_tied 1 = .ok (.iconst 0, 1) := by decide +kernel
theorem dX6_tied_2 : decode cX6_tied 2 = .ok (.putfield 71, 3) := by decide +kernel
theorem dX6_tied_5 : decode cX6_tied 5 = .ok (.aload_n 0, 1) := by decide +kernel
theorem dX6_tied_6 : decode cX6_tied 6 = .ok (.iload_n 1, 1) := by decide +kernel
theorem dX6_tied_7 : decode cX6_tied 7 = .ok (.iload_n 2, 1) := by decide +kernel
theorem dX6_tied_8 : decode cX6_tied 8 = .ok (.invokevirtual 319, 3) := by decide +kernel
theorem dX6_tied_11 : decode cX6_tied 11 = .ok (.ifCond .ne 6, 3) := by decide +kernel
theorem dX6_tied_14 : decode cX6_tied 14 = .ok (.bipush (-2), 2) := by decide +kernel
theorem dX6_tied_16 : decode cX6_tied 16 = .ok (.ireturn, 1) := by decide +kernel
theorem dX6_ties_0 : decode cX6_ties 0 = .ok (.aload_n 0, 1) := by decide +kernel
theorem dX6_ties_1 : decode cX6_ties 1 = .ok (.iconst 0, 1) := by decide +kernel
theorem dX6_ties_2 : decode cX6_ties 2 = .ok (.putfield 71, 3) := by decide +kernel
theorem dX6_ties_5 : decode cX6_ties 5 = .ok (.aload_n 0, 1) := by decide +kernel
theorem dX6_ties_6 : decode cX6_ties 6 = .ok (.iload_n 1, 1) := by decide +kernel
theorem dX6_ties_7 : decode cX6_ties 7 = .ok (.iload_n 2, 1) := by decide +kernel
theorem dX6_ties_8 : decode cX6_ties 8 = .ok (.invokevirtual 319, 3) := by decide +kernel
theorem dX6_ties_11 : decode cX6_ties 11 = .ok (.ifCond .eq 12, 3) := by decide +kernel
theorem dX6_ties_23 : decode cX6_ties 23 = .ok (.bipush (-2), 2) := by decide +kernel
theorem dX6_ties_25 : decode cX6_ties 25 = .ok (.ireturn, 1) := by decide +kernel
theorem dX6_steps_0 : decode cX6_steps 0 = .ok (.aload_n 0, 1) := by decide +kernel
theorem dX6_steps_1 : decode cX6_steps 1 = .ok (.iconst 0, 1) := by decide +kernel
theorem dX6_steps_2 : decode cX6_steps 2 = .ok (.putfield 71, 3) := by decide +kernel
theorem dX6_steps_5 : decode cX6_steps 5 = .ok (.aload_n 0, 1) := by decide +kernel
theorem dX6_steps_6 : decode cX6_steps 6 = .ok (.iload_n 1, 1) := by decide +kernel
theorem dX6_steps_7 : decode cX6_steps 7 = .ok (.iload_n 2, 1) := by decide +kernel
theorem dX6_steps_8 : decode cX6_steps 8 = .ok (.invokevirtual 319, 3) := by decide +kernel
theorem dX6_steps_11 : decode cX6_steps 11 = .ok (.ifCond .ne 6, 3) := by decide +kernel
theorem dX6_steps_14 : decode cX6_steps 14 = .ok (.bipush (-2), 2) := by decide +kernel
theorem dX6_steps_16 : decode cX6_steps 16 = .ok (.ireturn, 1) := by decide +kernel
theorem dX6_deeds_0 : decode cX6_deeds 0 = .ok (.aload_n 0, 1) := by decide +kernel
theorem dX6_deeds_1 : decode cX6_deeds 1 = .ok (.iconst 0, 1) := by decide +kernel
theorem dX6_deeds_2 : decode cX6_deeds 2 = .ok (.putfield 71, 3) := by decide +kernel
theorem dX6_deeds_5 : decode cX6_deeds 5 = .ok (.aload_n 0, 1) := by decide +kernel
theorem dX6_deeds_6 : decode cX6_deeds 6 = .ok (.iload_n 1, 1) := by decide +kernel
theorem dX6_deeds_7 : decode cX6_deeds 7 = .ok (.i2l, 1) := by decide +kernel
theorem dX6_deeds_8 : decode cX6_deeds 8 = .ok (.invokevirtual 234, 3) := by decide +kernel
theorem dX6_deeds_11 : decode cX6_deeds 11 = .ok (.ifCond .eq 12, 3) := by decide +kernel
theorem dX6_deeds_23 : decode cX6_deeds 23 = .ok (.bipush (-2), 2) := by decide +kernel
theorem dX6_deeds_25 : decode cX6_deeds 25 = .ok (.ireturn, 1) := by decide +kernel
theorem dX6_can_0 : decode cX6_can 0 = .ok (.aload_n 0, 1) := by decide +kernel
theorem dX6_can_1 : decode cX6_can 1 = .ok (.iconst 0, 1) := by decide +kernel
theorem dX6_can_2 : decode cX6_can 2 = .ok (.putfield 71, 3) := by decide +kernel
theorem dX6_can_5 : decode cX6_can 5 = .ok (.aload_n 0, 1) := by decide +kernel
theorem dX6_can_6 : decode cX6_can 6 = .ok (.iload_n 1, 1) := by decide +kernel
theorem dX6_can_7 : decode cX6_can 7 = .ok (.i2l, 1) := by decide +kernel
theorem dX6_can_8 : decode cX6_can 8 = .ok (.invokevirtual 322, 3) := by decide +kernel
theorem dX6_can_11 : decode cX6_can 11 = .ok (.ifCond .eq 12, 3) := by decide +kernel
theorem dX6_can_23 : decode cX6_can 23 = .ok (.bipush (-2), 2) := by decide +kernel
theorem dX6_can_25 : decode cX6_can 25 = .ok (.ireturn, 1) := by decide +kernel
theorem dX6_safe_0 : decode cX6_safe 0 = .ok (.aload_n 0, 1) := by decide +kernel
theorem dX6_safe_1 : decode cX6_safe 1 = .ok (.iconst 0, 1) := by decide +kernel
theorem dX6_safe_2 : decode cX6_safe 2 = .ok (.putfield 71, 3) := by decide +kernel
theorem dX6_safe_5 : decode cX6_safe 5 = .ok (.aload_n 0, 1) := by decide +kernel
theorem dX6_safe_6 : decode cX6_safe 6 = .ok (.invokevirtual 276, 3) := by decide +kernel
theorem dX6_safe_9 : decode cX6_safe 9 = .ok (.ifCond .ne 6, 3) := by decide +kernel
theorem dX6_safe_12 : decode cX6_safe 12 = .ok (.bipush (-2), 2) := by decide +kernel
theorem dX6_safe_14 : decode cX6_safe 14 = .ok (.ireturn, 1) := by decide +kernel
theorem dX6_guard_0 : decode cX6_guard 0 = .ok (.aload_n 0, 1) := by decide +kernel
theorem dX6_guard_1 : decode cX6_guard 1 = .ok (.iconst 0, 1) := by decide +kernel
theorem dX6_guard_2 : decode cX6_guard 2 = .ok (.putfield 71, 3) := by decide +kernel
theorem dX6_guard_5 : decode cX6_guard 5 = .ok (.aload_n 0, 1) := by decide +kernel
theorem dX6_guard_6 : decode cX6_guard 6 = .ok (.iload_n 1, 1) := by decide +kernel
theorem dX6_guard_7 : decode cX6_guard 7 = .ok (.i2l, 1) := by decide +kernel
theorem dX6_guard_8 : decode cX6_guard 8 = .ok (.invokevirtual 234, 3) := by decide +kernel
theorem dX6_guard_11 : decode cX6_guard 11 = .ok (.ifCond .eq 12, 3) := by decide +kernel
theorem dX6_guard_23 : decode cX6_guard 23 = .ok (.bipush (-2), 2) := by decide +kernel
theorem dX6_guard_25 : decode cX6_guard 25 = .ok (.ireturn, 1) := by decide +kernel
theorem dX6_guards_0 : decode cX6_guards 0 = .ok (.aload_n 0, 1) := by decide +kernel
theorem dX6_guards_1 : decode cX6_guards 1 = .ok (.iconst 0, 1) := by decide +kernel
theorem dX6_guards_2 : decode cX6_guards 2 = .ok (.putfield 71, 3) := by decide +kernel
theorem dX6_guards_5 : decode cX6_guards 5 = .ok (.aload_n 0, 1) := by decide +kernel
theorem dX6_guards_6 : decode cX6_guards 6 = .ok (.iload_n 1, 1) := by decide +kernel
theorem dX6_guards_7 : decode cX6_guards 7 = .ok (.i2l, 1) := by decide +kernel
theorem dX6_guards_8 : decode cX6_guards 8 = .ok (.invokevirtual 234, 3) := by decide +kernel
theorem dX6_guards_11 : decode cX6_guards 11 = .ok (.ifCond .ne 6, 3) := by decide +kernel
theorem dX6_guards_14 : decode cX6_guards 14 = .ok (.bipush (-2), 2) := by decide +kernel
theorem dX6_guards_16 : decode cX6_guards 16 = .ok (.ireturn, 1) := by decide +kernel
theorem dX6_guarded_0 : decode cX6_guarded 0 = .ok (.aload_n 0, 1) := by decide +kernel
theorem dX6_guarded_1 : decode cX6_guarded 1 = .ok (.iconst 0, 1) := by decide +kernel
theorem dX6_guarded_2 : decode cX6_guarded 2 = .ok (.putfield 71, 3) := by decide +kernel
theorem dX6_guarded_5 : decode cX6_guarded 5 = .ok (.aload_n 0, 1) := by decide +kernel
theorem dX6_guarded_6 : decode cX6_guarded 6 = .ok (.iload_n 1, 1) := by decide +kernel
theorem dX6_guarded_7 : decode cX6_guarded 7 = .ok (.i2l, 1) := by decide +kernel
theorem dX6_guarded_8 : decode cX6_guarded 8 = .ok (.invokevirtual 234, 3) := by decide +kernel
theorem dX6_guarded_11 : decode cX6_guarded 11 = .ok (.ifCond .eq 11, 3) := by decide +kernel
theorem dX6_guarded_22 : decode cX6_guarded 22 = .ok (.bipush (-2), 2) := by decide +kernel
theorem dX6_guarded_24 : decode cX6_guarded 24 = .ok (.ireturn, 1) := by decide +kernel
theorem dX6_whyNotWho_0 : decode cX6_whyNotWho 0 = .ok (.iload_n 1, 1) := by decide +kernel
theorem dX6_whyNotWho_1 : decode cX6_whyNotWho 1 = .ok (.invokestatic 80, 3) := by decide +kernel
theorem dX6_whyNotWho_4 : decode cX6_whyNotWho 4 = .ok (.ifCond .eq 10, 3) := by decide +kernel
theorem dX6_whyNotWho_7 : decode cX6_whyNotWho 7 = .ok (.aload_n 0, 1) := by decide +kernel
theorem dX6_whyNotWho_8 : decode cX6_whyNotWho 8 = .ok (.invokevirtual 276, 3) := by decide +kernel
theorem dX6_whyNotWho_11 : decode cX6_whyNotWho 11 = .ok (.ifCond .ne 6, 3) := by decide +kernel
theorem dX6_whyNotWho_14 : decode cX6_whyNotWho 14 = .ok (.bipush (-2), 2) := by decide +kernel
theorem dX6_whyNotWho_16 : decode cX6_whyNotWho 16 = .ok (.ireturn, 1) := by decide +kernel
theorem dX6_who_0 : decode cX6_who 0 = .ok (.aload_n 0, 1) := by decide +kernel
theorem dX6_who_1 : decode cX6_who 1 = .ok (.iconst 0, 1) := by decide +kernel
theorem dX6_who_2 : decode cX6_who 2 = .ok (.putfield 71, 3) := by decide +kernel
theorem dX6_who_5 : decode cX6_who 5 = .ok (.aload_n 0, 1) := by decide +kernel
theorem dX6_who_6 : decode cX6_who 6 = .ok (.iload_n 1, 1) := by decide +kernel
theorem dX6_who_7 : decode cX6_who 7 = .ok (.invokevirtual 349, 3) := by decide +kernel
theorem dX6_who_10 : decode cX6_who 10 = .ok (.istore_n 2, 1) := by decide +kernel
theorem dX6_who_11 : decode cX6_who 11 = .ok (.iload_n 2, 1) := by decide +kernel
theorem dX6_who_12 : decode cX6_who 12 = .ok (.ifCond .eq 7, 3) := by decide +kernel
theorem dX6_who_15 : decode cX6_who 15 = .ok (.iload_n 2, 1) := by decide +kernel
theorem dX6_who_16 : decode cX6_who 16 = .ok (.goto 8, 3) := by decide +kernel
theorem dX6_who_24 : decode cX6_who 24 = .ok (.ireturn, 1) := by decide +kernel
theorem dX6_ask_0 : decode cX6_ask 0 = .ok (.aload_n 0, 1) := by decide +kernel
theorem dX6_ask_1 : decode cX6_ask 1 = .ok (.iconst 0, 1) := by decide +kernel
theorem dX6_ask_2 : decode cX6_ask 2 = .ok (.putfield 71, 3) := by decide +kernel
theorem dX6_ask_5 : decode cX6_ask 5 = .ok (.aload_n 0, 1) := by decide +kernel
theorem dX6_ask_6 : decode cX6_ask 6 = .ok (.iload_n 1, 1) := by decide +kernel
theorem dX6_ask_7 : decode cX6_ask 7 = .ok (.invokevirtual 349, 3) := by decide +kernel
theorem dX6_ask_10 : decode cX6_ask 10 = .ok (.istore_n 2, 1) := by decide +kernel
theorem dX6_ask_11 : decode cX6_ask 11 = .ok (.iload_n 2, 1) := by decide +kernel
theorem dX6_ask_12 : decode cX6_ask 12 = .ok (.ifCond .eq 5, 3) := by decide +kernel
theorem dX6_ask_15 : decode cX6_ask 15 = .ok (.iload_n 2, 1) := by decide +kernel
theorem dX6_ask_16 : decode cX6_ask 16 = .ok (.ireturn, 1) := by decide +kernel
theorem dX6_leaves_0 : decode cX6_leaves 0 = .ok (.aload_n 0, 1) := by decide +kernel
theorem dX6_leaves_1 : decode cX6_leaves 1 = .ok (.iconst 0, 1) := by decide +kernel
theorem dX6_leaves_2 : decode cX6_leaves 2 = .ok (.putfield 71, 3) := by decide +kernel
theorem dX6_leaves_5 : decode cX6_leaves 5 = .ok (.aload_n 0, 1) := by decide +kernel
theorem dX6_leaves_6 : decode cX6_leaves 6 = .ok (.iload_n 1, 1) := by decide +kernel
theorem dX6_leaves_7 : decode cX6_leaves 7 = .ok (.invokevirtual 349, 3) := by decide +kernel
theorem dX6_leaves_10 : decode cX6_leaves 10 = .ok (.istore_n 2, 1) := by decide +kernel
theorem dX6_leaves_11 : decode cX6_leaves 11 = .ok (.iload_n 2, 1) := by decide +kernel
theorem dX6_leaves_12 : decode cX6_leaves 12 = .ok (.ifCond .eq 5, 3) := by decide +kernel
theorem dX6_leaves_15 : decode cX6_leaves 15 = .ok (.iload_n 2, 1) := by decide +kernel
theorem dX6_leaves_16 : decode cX6_leaves 16 = .ok (.ireturn, 1) := by decide +kernel
theorem dX6_whyNotOaths_0 : decode cX6_whyNotOaths 0 = .ok (.iload_n 1, 1) := by decide +kernel
theorem dX6_whyNotOaths_1 : decode cX6_whyNotOaths 1 = .ok (.invokestatic 80, 3) := by decide +kernel
theorem dX6_whyNotOaths_4 : decode cX6_whyNotOaths 4 = .ok (.ifCond .eq 10, 3) := by decide +kernel
theorem dX6_whyNotOaths_7 : decode cX6_whyNotOaths 7 = .ok (.aload_n 0, 1) := by decide +kernel
theorem dX6_whyNotOaths_8 : decode cX6_whyNotOaths 8 = .ok (.invokevirtual 276, 3) := by decide +kernel
theorem dX6_whyNotOaths_11 : decode cX6_whyNotOaths 11 = .ok (.ifCond .ne 6, 3) := by decide +kernel
theorem dX6_whyNotOaths_14 : decode cX6_whyNotOaths 14 = .ok (.bipush (-2), 2) := by decide +kernel
theorem dX6_whyNotOaths_16 : decode cX6_whyNotOaths 16 = .ok (.ireturn, 1) := by decide +kernel
theorem dX6_lies_0 : decode cX6_lies 0 = .ok (.aload_n 0, 1) := by decide +kernel
theorem dX6_lies_1 : decode cX6_lies 1 = .ok (.iconst 0, 1) := by decide +kernel
theorem dX6_lies_2 : decode cX6_lies 2 = .ok (.putfield 71, 3) := by decide +kernel
theorem dX6_lies_5 : decode cX6_lies 5 = .ok (.aload_n 0, 1) := by decide +kernel
theorem dX6_lies_6 : decode cX6_lies 6 = .ok (.iload_n 1, 1) := by decide +kernel
theorem dX6_lies_7 : decode cX6_lies 7 = .ok (.invokevirtual 364, 3) := by decide +kernel
theorem dX6_lies_10 : decode cX6_lies 10 = .ok (.istore_n 2, 1) := by decide +kernel
theorem dX6_lies_11 : decode cX6_lies 11 = .ok (.iload_n 2, 1) := by decide +kernel
theorem dX6_lies_12 : decode cX6_lies 12 = .ok (.ifCond .eq 5, 3) := by decide +kernel
theorem dX6_lies_15 : decode cX6_lies 15 = .ok (.iload_n 2, 1) := by decide +kernel
theorem dX6_lies_16 : decode cX6_lies 16 = .ok (.ireturn, 1) := by decide +kernel
theorem dX6_liars_0 : decode cX6_liars 0 = .ok (.aload_n 0, 1) := by decide +kernel
theorem dX6_liars_1 : decode cX6_liars 1 = .ok (.iconst 0, 1) := by decide +kernel
theorem dX6_liars_2 : decode cX6_liars 2 = .ok (.putfield 71, 3) := by decide +kernel
theorem dX6_liars_5 : decode cX6_liars 5 = .ok (.aload_n 0, 1) := by decide +kernel
theorem dX6_liars_6 : decode cX6_liars 6 = .ok (.iload_n 1, 1) := by decide +kernel
theorem dX6_liars_7 : decode cX6_liars 7 = .ok (.invokevirtual 364, 3) := by decide +kernel
theorem dX6_liars_10 : decode cX6_liars 10 = .ok (.istore_n 2, 1) := by decide +kernel
theorem dX6_liars_11 : decode cX6_liars 11 = .ok (.iload_n 2, 1) := by decide +kernel
theorem dX6_liars_12 : decode cX6_liars 12 = .ok (.ifCond .eq 5, 3) := by decide +kernel
theorem dX6_liars_15 : decode cX6_liars 15 = .ok (.iload_n 2, 1) := by decide +kernel
theorem dX6_liars_16 : decode cX6_liars 16 = .ok (.ireturn, 1) := by decide +kernel
theorem dX6_closed_0 : decode cX6_closed 0 = .ok (.aload_n 0, 1) := by decide +kernel
theorem dX6_closed_1 : decode cX6_closed 1 = .ok (.iconst 0, 1) := by decide +kernel
theorem dX6_closed_2 : decode cX6_closed 2 = .ok (.putfield 71, 3) := by decide +kernel
theorem dX6_closed_5 : decode cX6_closed 5 = .ok (.aload_n 0, 1) := by decide +kernel
theorem dX6_closed_6 : decode cX6_closed 6 = .ok (.iload_n 2, 1) := by decide +kernel
theorem dX6_closed_7 : decode cX6_closed 7 = .ok (.i2l, 1) := by decide +kernel
theorem dX6_closed_8 : decode cX6_closed 8 = .ok (.invokevirtual 234, 3) := by decide +kernel
theorem dX6_closed_11 : decode cX6_closed 11 = .ok (.ifCond .eq 11, 3) := by decide +kernel
theorem dX6_closed_22 : decode cX6_closed 22 = .ok (.bipush (-2), 2) := by decide +kernel
theorem dX6_closed_24 : decode cX6_closed 24 = .ok (.istore_n 3, 1) := by decide +kernel
theorem dX6_closed_25 : decode cX6_closed 25 = .ok (.iload_n 3, 1) := by decide +kernel
theorem dX6_closed_26 : decode cX6_closed 26 = .ok (.ifCond .eq 5, 3) := by decide +kernel
theorem dX6_closed_29 : decode cX6_closed 29 = .ok (.iload_n 3, 1) := by decide +kernel
theorem dX6_closed_30 : decode cX6_closed 30 = .ok (.ireturn, 1) := by decide +kernel
theorem dX6_whyNotWorn_0 : decode cX6_whyNotWorn 0 = .ok (.iload_n 1, 1) := by decide +kernel
theorem dX6_whyNotWorn_1 : decode cX6_whyNotWorn 1 = .ok (.invokestatic 80, 3) := by decide +kernel
theorem dX6_whyNotWorn_4 : decode cX6_whyNotWorn 4 = .ok (.ifCond .eq 10, 3) := by decide +kernel
theorem dX6_whyNotWorn_7 : decode cX6_whyNotWorn 7 = .ok (.aload_n 0, 1) := by decide +kernel
theorem dX6_whyNotWorn_8 : decode cX6_whyNotWorn 8 = .ok (.invokevirtual 276, 3) := by decide +kernel
theorem dX6_whyNotWorn_11 : decode cX6_whyNotWorn 11 = .ok (.ifCond .ne 6, 3) := by decide +kernel
theorem dX6_whyNotWorn_14 : decode cX6_whyNotWorn 14 = .ok (.bipush (-2), 2) := by decide +kernel
theorem dX6_whyNotWorn_16 : decode cX6_whyNotWorn 16 = .ok (.ireturn, 1) := by decide +kernel
theorem dX6_worn_0 : decode cX6_worn 0 = .ok (.aload_n 0, 1) := by decide +kernel
theorem dX6_worn_1 : decode cX6_worn 1 = .ok (.iconst 0, 1) := by decide +kernel
theorem dX6_worn_2 : decode cX6_worn 2 = .ok (.putfield 71, 3) := by decide +kernel
theorem dX6_worn_5 : decode cX6_worn 5 = .ok (.aload_n 0, 1) := by decide +kernel
theorem dX6_worn_6 : decode cX6_worn 6 = .ok (.iload_n 1, 1) := by decide +kernel
theorem dX6_worn_7 : decode cX6_worn 7 = .ok (.invokevirtual 370, 3) := by decide +kernel
theorem dX6_worn_10 : decode cX6_worn 10 = .ok (.istore_n 2, 1) := by decide +kernel
theorem dX6_worn_11 : decode cX6_worn 11 = .ok (.iload_n 2, 1) := by decide +kernel
theorem dX6_worn_12 : decode cX6_worn 12 = .ok (.ifCond .eq 5, 3) := by decide +kernel
theorem dX6_worn_15 : decode cX6_worn 15 = .ok (.iload_n 2, 1) := by decide +kernel
theorem dX6_worn_16 : decode cX6_worn 16 = .ok (.ireturn, 1) := by decide +kernel
theorem dX6_wore_0 : decode cX6_wore 0 = .ok (.aload_n 0, 1) := by decide +kernel
theorem dX6_wore_1 : decode cX6_wore 1 = .ok (.iconst 0, 1) := by decide +kernel
theorem dX6_wore_2 : decode cX6_wore 2 = .ok (.putfield 71, 3) := by decide +kernel
theorem dX6_wore_5 : decode cX6_wore 5 = .ok (.aload_n 0, 1) := by decide +kernel
theorem dX6_wore_6 : decode cX6_wore 6 = .ok (.iload_n 2, 1) := by decide +kernel
theorem dX6_wore_7 : decode cX6_wore 7 = .ok (.i2l, 1) := by decide +kernel
theorem dX6_wore_8 : decode cX6_wore 8 = .ok (.invokevirtual 234, 3) := by decide +kernel
theorem dX6_wore_11 : decode cX6_wore 11 = .ok (.ifCond .eq 11, 3) := by decide +kernel
theorem dX6_wore_22 : decode cX6_wore 22 = .ok (.bipush (-2), 2) := by decide +kernel
theorem dX6_wore_24 : decode cX6_wore 24 = .ok (.istore_n 3, 1) := by decide +kernel
theorem dX6_wore_25 : decode cX6_wore 25 = .ok (.iload_n 3, 1) := by decide +kernel
theorem dX6_wore_26 : decode cX6_wore 26 = .ok (.ifCond .eq 5, 3) := by decide +kernel
theorem dX6_wore_29 : decode cX6_wore 29 = .ok (.iload_n 3, 1) := by decide +kernel
theorem dX6_wore_30 : decode cX6_wore 30 = .ok (.ireturn, 1) := by decide +kernel
theorem dX6_surely_0 : decode cX6_surely 0 = .ok (.aload_n 0, 1) := by decide +kernel
theorem dX6_surely_1 : decode cX6_surely 1 = .ok (.iconst 0, 1) := by decide +kernel
theorem dX6_surely_2 : decode cX6_surely 2 = .ok (.putfield 71, 3) := by decide +kernel
theorem dX6_surely_5 : decode cX6_surely 5 = .ok (.aload_n 0, 1) := by decide +kernel
theorem dX6_surely_6 : decode cX6_surely 6 = .ok (.iload_n 2, 1) := by decide +kernel
theorem dX6_surely_7 : decode cX6_surely 7 = .ok (.i2l, 1) := by decide +kernel
theorem dX6_surely_8 : decode cX6_surely 8 = .ok (.invokevirtual 234, 3) := by decide +kernel
theorem dX6_surely_11 : decode cX6_surely 11 = .ok (.ifCond .eq 11, 3) := by decide +kernel
theorem dX6_surely_22 : decode cX6_surely 22 = .ok (.bipush (-2), 2) := by decide +kernel
theorem dX6_surely_24 : decode cX6_surely 24 = .ok (.istore_n 3, 1) := by decide +kernel
theorem dX6_surely_25 : decode cX6_surely 25 = .ok (.iload_n 3, 1) := by decide +kernel
theorem dX6_surely_26 : decode cX6_surely 26 = .ok (.ifCond .eq 5, 3) := by decide +kernel
theorem dX6_surely_29 : decode cX6_surely 29 = .ok (.iload_n 3, 1) := by decide +kernel
theorem dX6_surely_30 : decode cX6_surely 30 = .ok (.ireturn, 1) := by decide +kernel
theorem dX6_law_0 : decode cX6_law 0 = .ok (.aload_n 0, 1) := by decide +kernel
theorem dX6_law_1 : decode cX6_law 1 = .ok (.iconst 0, 1) := by decide +kernel
theorem dX6_law_2 : decode cX6_law 2 = .ok (.putfield 71, 3) := by decide +kernel
theorem dX6_law_5 : decode cX6_law 5 = .ok (.aload_n 0, 1) := by decide +kernel
theorem dX6_law_6 : decode cX6_law 6 = .ok (.iload_n 1, 1) := by decide +kernel
theorem dX6_law_7 : decode cX6_law 7 = .ok (.i2l, 1) := by decide +kernel
theorem dX6_law_8 : decode cX6_law 8 = .ok (.invokevirtual 267, 3) := by decide +kernel
theorem dX6_law_11 : decode cX6_law 11 = .ok (.ifCond .eq 20, 3) := by decide +kernel
theorem dX6_law_31 : decode cX6_law 31 = .ok (.bipush (-2), 2) := by decide +kernel
theorem dX6_law_33 : decode cX6_law 33 = .ok (.ireturn, 1) := by decide +kernel
theorem dX6_chance_0 : decode cX6_chance 0 = .ok (.aload_n 0, 1) := by decide +kernel
theorem dX6_chance_1 : decode cX6_chance 1 = .ok (.iconst 0, 1) := by decide +kernel
theorem dX6_chance_2 : decode cX6_chance 2 = .ok (.putfield 71, 3) := by decide +kernel
theorem dX6_chance_5 : decode cX6_chance 5 = .ok (.aload_n 0, 1) := by decide +kernel
theorem dX6_chance_6 : decode cX6_chance 6 = .ok (.iload_n 1, 1) := by decide +kernel
theorem dX6_chance_7 : decode cX6_chance 7 = .ok (.i2l, 1) := by decide +kernel
theorem dX6_chance_8 : decode cX6_chance 8 = .ok (.invokevirtual 234, 3) := by decide +kernel
theorem dX6_chance_11 : decode cX6_chance 11 = .ok (.ifCond .eq 10, 3) := by decide +kernel
theorem dX6_chance_21 : decode cX6_chance 21 = .ok (.ldc2_w 383, 3) := by decide +kernel
theorem dX6_chance_24 : decode cX6_chance 24 = .ok (.lreturn, 1) := by decide +kernel
theorem dX6_likely_0 : decode cX6_likely 0 = .ok (.aload_n 0, 1) := by decide +kernel
theorem dX6_likely_1 : decode cX6_likely 1 = .ok (.iconst 0, 1) := by decide +kernel
theorem dX6_likely_2 : decode cX6_likely 2 = .ok (.putfield 71, 3) := by decide +kernel
theorem dX6_likely_5 : decode cX6_likely 5 = .ok (.aload_n 0, 1) := by decide +kernel
theorem dX6_likely_6 : decode cX6_likely 6 = .ok (.iload_n 1, 1) := by decide +kernel
theorem dX6_likely_7 : decode cX6_likely 7 = .ok (.i2l, 1) := by decide +kernel
theorem dX6_likely_8 : decode cX6_likely 8 = .ok (.invokevirtual 234, 3) := by decide +kernel
theorem dX6_likely_11 : decode cX6_likely 11 = .ok (.ifCond .ne 6, 3) := by decide +kernel
theorem dX6_likely_14 : decode cX6_likely 14 = .ok (.bipush (-2), 2) := by decide +kernel
theorem dX6_likely_16 : decode cX6_likely 16 = .ok (.ireturn, 1) := by decide +kernel
theorem dX6_isSeed_0 : decode cX6_isSeed 0 = .ok (.aload_n 0, 1) := by decide +kernel
theorem dX6_isSeed_1 : decode cX6_isSeed 1 = .ok (.invokevirtual 276, 3) := by decide +kernel
theorem dX6_isSeed_4 : decode cX6_isSeed 4 = .ok (.ifCond .eq 19, 3) := by decide +kernel
theorem dX6_isSeed_23 : decode cX6_isSeed 23 = .ok (.iconst 0, 1) := by decide +kernel
theorem dX6_isSeed_24 : decode cX6_isSeed 24 = .ok (.ireturn, 1) := by decide +kernel
theorem dX6_drawn_0 : decode cX6_drawn 0 = .ok (.aload_n 0, 1) := by decide +kernel
theorem dX6_drawn_1 : decode cX6_drawn 1 = .ok (.iconst 0, 1) := by decide +kernel
theorem dX6_drawn_2 : decode cX6_drawn 2 = .ok (.putfield 71, 3) := by decide +kernel
theorem dX6_drawn_5 : decode cX6_drawn 5 = .ok (.aload_n 0, 1) := by decide +kernel
theorem dX6_drawn_6 : decode cX6_drawn 6 = .ok (.iload_n 1, 1) := by decide +kernel
theorem dX6_drawn_7 : decode cX6_drawn 7 = .ok (.invokevirtual 400, 3) := by decide +kernel
theorem dX6_drawn_10 : decode cX6_drawn 10 = .ok (.ifCond .eq 15, 3) := by decide +kernel
theorem dX6_drawn_25 : decode cX6_drawn 25 = .ok (.bipush (-2), 2) := by decide +kernel
theorem dX6_drawn_27 : decode cX6_drawn 27 = .ok (.ireturn, 1) := by decide +kernel
theorem dX6_luck_0 : decode cX6_luck 0 = .ok (.aload_n 0, 1) := by decide +kernel
theorem dX6_luck_1 : decode cX6_luck 1 = .ok (.iconst 0, 1) := by decide +kernel
theorem dX6_luck_2 : decode cX6_luck 2 = .ok (.putfield 71, 3) := by decide +kernel
theorem dX6_luck_5 : decode cX6_luck 5 = .ok (.aload_n 0, 1) := by decide +kernel
theorem dX6_luck_6 : decode cX6_luck 6 = .ok (.iload_n 1, 1) := by decide +kernel
theorem dX6_luck_7 : decode cX6_luck 7 = .ok (.invokevirtual 400, 3) := by decide +kernel
theorem dX6_luck_10 : decode cX6_luck 10 = .ok (.ifCond .eq 24, 3) := by decide +kernel
theorem dX6_luck_34 : decode cX6_luck 34 = .ok (.bipush (-2), 2) := by decide +kernel
theorem dX6_luck_36 : decode cX6_luck 36 = .ok (.ireturn, 1) := by decide +kernel
theorem dX6_swear_0 : decode cX6_swear 0 = .ok (.aload_n 0, 1) := by decide +kernel
theorem dX6_swear_1 : decode cX6_swear 1 = .ok (.iconst 0, 1) := by decide +kernel
theorem dX6_swear_2 : decode cX6_swear 2 = .ok (.putfield 71, 3) := by decide +kernel
theorem dX6_swear_5 : decode cX6_swear 5 = .ok (.aload_n 0, 1) := by decide +kernel
theorem dX6_swear_6 : decode cX6_swear 6 = .ok (.iload_n 1, 1) := by decide +kernel
theorem dX6_swear_7 : decode cX6_swear 7 = .ok (.i2l, 1) := by decide +kernel
theorem dX6_swear_8 : decode cX6_swear 8 = .ok (.invokevirtual 234, 3) := by decide +kernel
theorem dX6_swear_11 : decode cX6_swear 11 = .ok (.ifCond .eq 22, 3) := by decide +kernel
theorem dX6_swear_33 : decode cX6_swear 33 = .ok (.bipush (-2), 2) := by decide +kernel
theorem dX6_swear_35 : decode cX6_swear 35 = .ok (.ireturn, 1) := by decide +kernel
theorem dX6_move_0 : decode cX6_move 0 = .ok (.aload_n 0, 1) := by decide +kernel
theorem dX6_move_1 : decode cX6_move 1 = .ok (.iconst 0, 1) := by decide +kernel
theorem dX6_move_2 : decode cX6_move 2 = .ok (.putfield 71, 3) := by decide +kernel
theorem dX6_move_5 : decode cX6_move 5 = .ok (.aload_n 0, 1) := by decide +kernel
theorem dX6_move_6 : decode cX6_move 6 = .ok (.iload_n 1, 1) := by decide +kernel
theorem dX6_move_7 : decode cX6_move 7 = .ok (.i2l, 1) := by decide +kernel
theorem dX6_move_8 : decode cX6_move 8 = .ok (.invokevirtual 234, 3) := by decide +kernel
theorem dX6_move_11 : decode cX6_move 11 = .ok (.ifCond .eq 21, 3) := by decide +kernel
theorem dX6_move_32 : decode cX6_move 32 = .ok (.bipush (-2), 2) := by decide +kernel
theorem dX6_move_34 : decode cX6_move 34 = .ok (.ireturn, 1) := by decide +kernel
theorem dX6_undo_0 : decode cX6_undo 0 = .ok (.aload_n 0, 1) := by decide +kernel
theorem dX6_undo_1 : decode cX6_undo 1 = .ok (.iconst 0, 1) := by decide +kernel
theorem dX6_undo_2 : decode cX6_undo 2 = .ok (.putfield 71, 3) := by decide +kernel
theorem dX6_undo_5 : decode cX6_undo 5 = .ok (.aload_n 0, 1) := by decide +kernel
theorem dX6_undo_6 : decode cX6_undo 6 = .ok (.invokevirtual 276, 3) := by decide +kernel
theorem dX6_undo_9 : decode cX6_undo 9 = .ok (.ifCond .ne 6, 3) := by decide +kernel
theorem dX6_undo_12 : decode cX6_undo 12 = .ok (.bipush (-2), 2) := by decide +kernel
theorem dX6_undo_14 : decode cX6_undo 14 = .ok (.ireturn, 1) := by decide +kernel
theorem dX6_anew_0 : decode cX6_anew 0 = .ok (.aload_n 0, 1) := by decide +kernel
theorem dX6_anew_1 : decode cX6_anew 1 = .ok (.iconst 0, 1) := by decide +kernel
theorem dX6_anew_2 : decode cX6_anew 2 = .ok (.putfield 71, 3) := by decide +kernel
theorem dX6_anew_5 : decode cX6_anew 5 = .ok (.aload_n 0, 1) := by decide +kernel
theorem dX6_anew_6 : decode cX6_anew 6 = .ok (.invokevirtual 276, 3) := by decide +kernel
theorem dX6_anew_9 : decode cX6_anew 9 = .ok (.ifCond .ne 6, 3) := by decide +kernel
theorem dX6_anew_12 : decode cX6_anew 12 = .ok (.bipush (-2), 2) := by decide +kernel
theorem dX6_anew_14 : decode cX6_anew 14 = .ok (.ireturn, 1) := by decide +kernel
theorem dX6_tell_0 : decode cX6_tell 0 = .ok (.aload_n 0, 1) := by decide +kernel
theorem dX6_tell_1 : decode cX6_tell 1 = .ok (.iconst 0, 1) := by decide +kernel
theorem dX6_tell_2 : decode cX6_tell 2 = .ok (.putfield 71, 3) := by decide +kernel
theorem dX6_tell_5 : decode cX6_tell 5 = .ok (.aload_n 0, 1) := by decide +kernel
theorem dX6_tell_6 : decode cX6_tell 6 = .ok (.invokevirtual 276, 3) := by decide +kernel
theorem dX6_tell_9 : decode cX6_tell 9 = .ok (.ifCond .eq 60, 3) := by decide +kernel
theorem dX6_tell_69 : decode cX6_tell 69 = .ok (.bipush (-2), 2) := by decide +kernel
theorem dX6_tell_71 : decode cX6_tell 71 = .ok (.ireturn, 1) := by decide +kernel
theorem dX6_count_0 : decode cX6_count 0 = .ok (.aload_n 0, 1) := by decide +kernel
theorem dX6_count_1 : decode cX6_count 1 = .ok (.iconst 0, 1) := by decide +kernel
theorem dX6_count_2 : decode cX6_count 2 = .ok (.putfield 71, 3) := by decide +kernel
theorem dX6_count_5 : decode cX6_count 5 = .ok (.iload_n 1, 1) := by decide +kernel
theorem dX6_count_6 : decode cX6_count 6 = .ok (.i2l, 1) := by decide +kernel
theorem dX6_count_7 : decode cX6_count 7 = .ok (.lconst 0, 1) := by decide +kernel
theorem dX6_count_8 : decode cX6_count 8 = .ok (.ldc2_w 425, 3) := by decide +kernel
theorem dX6_count_11 : decode cX6_count 11 = .ok (.invokestatic 76, 3) := by decide +kernel
theorem dX6_count_14 : decode cX6_count 14 = .ok (.ifCond .eq 10, 3) := by decide +kernel
theorem dX6_count_17 : decode cX6_count 17 = .ok (.aload_n 0, 1) := by decide +kernel
theorem dX6_count_18 : decode cX6_count 18 = .ok (.getfield 34, 3) := by decide +kernel
theorem dX6_count_21 : decode cX6_count 21 = .ok (.iload_n 1, 1) := by decide +kernel
theorem dX6_count_22 : decode cX6_count 22 = .ok (.iaload, 1) := by decide +kernel
theorem dX6_count_23 : decode cX6_count 23 = .ok (.ireturn, 1) := by decide +kernel
theorem dX6_count_24 : decode cX6_count 24 = .ok (.iconst 0, 1) := by decide +kernel
theorem dX6_count_25 : decode cX6_count 25 = .ok (.istore_n 2, 1) := by decide +kernel
theorem dX6_count_26 : decode cX6_count 26 = .ok (.iload_n 1, 1) := by decide +kernel
theorem dX6_count_27 : decode cX6_count 27 = .ok (.tableswitch 70 9 11 #[25, 32, 37], 25) := by decide +kernel
theorem dX6_count_52 : decode cX6_count 52 = .ok (.aload_n 0, 1) := by decide +kernel
theorem dX6_count_53 : decode cX6_count 53 = .ok (.getfield 31, 3) := by decide +kernel
theorem dX6_count_56 : decode cX6_count 56 = .ok (.iconst 0, 1) := by decide +kernel
theorem dX6_count_57 : decode cX6_count 57 = .ok (.iaload, 1) := by decide +kernel
theorem dX6_count_58 : decode cX6_count 58 = .ok (.ireturn, 1) := by decide +kernel
theorem dX6_count_59 : decode cX6_count 59 = .ok (.aload_n 0, 1) := by decide +kernel
theorem dX6_count_60 : decode cX6_count 60 = .ok (.getfield 88, 3) := by decide +kernel
theorem dX6_count_63 : decode cX6_count 63 = .ok (.ireturn, 1) := by decide +kernel
theorem dX6_count_64 : decode cX6_count 64 = .ok (.iconst 0, 1) := by decide +kernel
theorem dX6_count_65 : decode cX6_count 65 = .ok (.istore_n 3, 1) := by decide +kernel
theorem dX6_count_66 : decode cX6_count 66 = .ok (.iload_n 3, 1) := by decide +kernel
theorem dX6_count_67 : decode cX6_count 67 = .ok (.iconst 4, 1) := by decide +kernel
theorem dX6_count_68 : decode cX6_count 68 = .ok (.if_icmp .ge 27, 3) := by decide +kernel
theorem dX6_count_71 : decode cX6_count 71 = .ok (.iload_n 2, 1) := by decide +kernel
theorem dX6_count_72 : decode cX6_count 72 = .ok (.aload_n 0, 1) := by decide +kernel
theorem dX6_count_73 : decode cX6_count 73 = .ok (.getfield 7, 3) := by decide +kernel
theorem dX6_count_76 : decode cX6_count 76 = .ok (.iload_n 3, 1) := by decide +kernel
theorem dX6_count_77 : decode cX6_count 77 = .ok (.iaload, 1) := by decide +kernel
theorem dX6_count_78 : decode cX6_count 78 = .ok (.iconst (-1), 1) := by decide +kernel
theorem dX6_count_79 : decode cX6_count 79 = .ok (.if_icmp .ne 7, 3) := by decide +kernel
theorem dX6_count_82 : decode cX6_count 82 = .ok (.iconst 0, 1) := by decide +kernel
theorem dX6_count_83 : decode cX6_count 83 = .ok (.goto 4, 3) := by decide +kernel
theorem dX6_count_87 : decode cX6_count 87 = .ok (.iadd, 1) := by decide +kernel
theorem dX6_count_88 : decode cX6_count 88 = .ok (.istore_n 2, 1) := by decide +kernel
theorem dX6_count_89 : decode cX6_count 89 = .ok (.iinc 3 1, 3) := by decide +kernel
theorem dX6_count_92 : decode cX6_count 92 = .ok (.goto (-26), 3) := by decide +kernel
theorem dX6_count_95 : decode cX6_count 95 = .ok (.iload_n 2, 1) := by decide +kernel
theorem dX6_count_96 : decode cX6_count 96 = .ok (.ireturn, 1) := by decide +kernel
theorem dX6_count_97 : decode cX6_count 97 = .ok (.iconst (-1), 1) := by decide +kernel
theorem dX6_count_98 : decode cX6_count 98 = .ok (.ireturn, 1) := by decide +kernel
theorem dX6_image_0 : decode cX6_image 0 = .ok (.aload_n 0, 1) := by decide +kernel
theorem dX6_image_1 : decode cX6_image 1 = .ok (.iconst 0, 1) := by decide +kernel
theorem dX6_image_2 : decode cX6_image 2 = .ok (.putfield 71, 3) := by decide +kernel
theorem dX6_image_5 : decode cX6_image 5 = .ok (.iload_n 1, 1) := by decide +kernel
theorem dX6_image_6 : decode cX6_image 6 = .ok (.i2l, 1) := by decide +kernel
theorem dX6_image_7 : decode cX6_image 7 = .ok (.lconst 0, 1) := by decide +kernel
theorem dX6_image_8 : decode cX6_image 8 = .ok (.ldc2_w 403, 3) := by decide +kernel
theorem dX6_image_11 : decode cX6_image 11 = .ok (.invokestatic 76, 3) := by decide +kernel
theorem dX6_image_14 : decode cX6_image 14 = .ok (.ifCond .ne 6, 3) := by decide +kernel
theorem dX6_image_17 : decode cX6_image 17 = .ok (.bipush (-2), 2) := by decide +kernel
theorem dX6_image_19 : decode cX6_image 19 = .ok (.ireturn, 1) := by decide +kernel
theorem dX6_image_20 : decode cX6_image 20 = .ok (.aload_n 0, 1) := by decide +kernel
theorem dX6_image_21 : decode cX6_image 21 = .ok (.iconst 0, 1) := by decide +kernel
theorem dX6_image_22 : decode cX6_image 22 = .ok (.iconst 1, 1) := by decide +kernel
theorem dX6_image_23 : decode cX6_image 23 = .ok (.iload_n 1, 1) := by decide +kernel
theorem dX6_image_24 : decode cX6_image 24 = .ok (.iadd, 1) := by decide +kernel
theorem dX6_image_25 : decode cX6_image 25 = .ok (.invokevirtual 220, 3) := by decide +kernel
theorem dX6_image_28 : decode cX6_image 28 = .ok (.aload_n 0, 1) := by decide +kernel
theorem dX6_image_29 : decode cX6_image 29 = .ok (.getfield 46, 3) := by decide +kernel
theorem dX6_image_32 : decode cX6_image 32 = .ok (.iload_n 1, 1) := by decide +kernel
